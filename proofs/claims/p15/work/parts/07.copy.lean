/-! System.arraycopy over rows of ints or booleans; new rows whose length is a variable; J under what may throw -/
def mm_wA (σ : mm_M) (a : Nat) (f : Nat → Int32) : mm_M := (σ.1, σ.2.1, (fun q => if q = a then f else σ.2.2.1 q), σ.2.2.2.1, σ.2.2.2.2)
theorem mm_v_wA {σ : mm_M} {a : Nat} {f : Nat → Int32} {q : Nat} (h : q ≠ a) (ty : FieldType) (j : Nat) : mm_v (mm_wA σ a f) ty q j = mm_v σ ty q j := by
  cases ty <;> simp [mm_v, mm_wA, h]
section MMY
variable {Y : mm_Y} {G : mm_G} {own : String} {cc : ByteArray} {nL : Nat} {rt : Option FieldType} {ini : Bool × Option (List (Nat × Nat × Nat × Nat))} {R : Room} {A : Nat → Prop} {Qf : List Frame → Array Value → State → State → Prop} {pc : Nat} {L : List (Nat × Value)} {st : List Value} {σ : mm_M} {ck sk : Nat}
set_option maxHeartbeats 1000000 in
theorem mm_copy {idx a0 a t n0 n1 : Nat} {ty : FieldType} {sp dp n : Int32} (hln : Cond.methodLink own idx arraycopyName ∈ Y.2.2.2.1) (hnat : Cond.native arraycopyName ∈ Y.2.2.2.1) (hstat : Cond.static arraycopyName ∈ Y.2.2.2.1) (hinit : Cond.initialized "java/lang/System" ∈ Y.2.2.2.1)
    (hs0 : σ.2.1 a0 = some (.inr (t, n0))) (hs1 : σ.2.1 a = some (.inr (t, n1))) (ht : Y.2.2.1[t]? = some ty) (hty : mm_isI ty = true) (hprim : refKind ty = false)
    (hcond : ¬ sp < 0 ∧ ¬ dp < 0 ∧ ¬ n < 0 ∧ sp.toNatClampNeg + n.toNatClampNeg ≤ n0 ∧ dp.toNatClampNeg + n.toNatClampNeg ≤ n1 ∧ ∀ i, i < n.toNatClampNeg → fits ty (.int (σ.2.2.1 a0 (sp.toNatClampNeg + i))) = true)
    (hf : 1 ≤ R.frames) (hlo : (st.map fun v => v.category).sum + (nativeFrameWords "java/lang/System" "arraycopy" 5 + 11) ≤ R.locals) (hd : decode cc pc = .ok (.invokestatic idx, 3))
    (kk : mm_J Y G own cc nL rt ini R A Qf (pc + 3) L st (mm_wA σ a (va_cpy (σ.2.2.1 a0) (σ.2.2.1 a) sp.toNatClampNeg dp.toNatClampNeg n.toNatClampNeg)) ck sk) : mm_J Y G own cc nL rt ini R A Qf pc L (.int n :: .int dp :: .ref a :: .int sp :: .ref a0 :: st) σ ck sk := by
  intro p l e s m args below meth c H locs ls X hP hS hl T hT XT
  obtain ⟨hx, hb, hml, hown, hts, hr, hlk, hini, hK, hlt⟩ := id X
  obtain ⟨h1, h2, h3, h4, h5, hfit⟩ := hcond
  have nn : ∀ z : Int32, ¬ z < 0 → z.toInt = (z.toNatClampNeg : Int) := by
    intro z hz
    have hz0 : (0 : Int) ≤ z.toInt := by
      have := Int32.not_lt.mp hz
      simpa using Int32.le_iff_toInt_le.mp this
    show z.toInt = ((z.toInt.toNat : Nat) : Int)
    omega
  have ev : ∀ (b : Nat), (fun k => mm_v σ ty b k) = fun k => Value.int (σ.2.2.1 b k) := fun b => funext fun k => mm_v_I hty b k
  obtain ⟨g0, i0⟩ := mm_arr hK hP hs0 ht
  obtain ⟨g1, i1⟩ := mm_arr hK hP hs1 ht
  rw [ev] at g0 i0 g1 i1
  obtain ⟨-, k0, hk0, cm0, hkk0⟩ := i0
  obtain ⟨-, k1, hk1, cm1, hkk1⟩ := i1
  obtain ⟨vm', X', step⟩ := XT.arraycopy hx hown (hts _ hln) (hts _ hnat) (hts _ hstat) (hts _ hinit) (src := a0) (dst := a) (cs := arrV (G.2.1 t) n0 (fun j => .int (σ.2.2.1 a0 j))) (cd := arrV (G.2.1 t) n1 (fun j => .int (σ.2.2.1 a j))) (srcPos := sp) (destPos := dp) (n := n) (by rw [hT]; exact g0) (by rw [hT]; exact g1)
    (fun _ h => by cases h) (fun _ h => by cases h) (fun h => by cases h) (fun h => by cases h) hk0 hk1 hkk0 hkk1 (by simp [hprim]) h1 h2 h3
    (by rw [nn sp h1, nn n h3, arrV_size]; omega) (by rw [nn dp h2, nn n h3, arrV_size]; omega)
    (fun vm₁ _ i hi => by
      have e : (arrV (G.2.1 t) n0 (fun j => Value.int (σ.2.2.1 a0 j))).slots.getD (sp.toNatClampNeg + i) .null = .int (σ.2.2.1 a0 (sp.toNatClampNeg + i)) := by
        rw [Array.getD_eq_getD_getElem?, arrV_read _ _ (by omega)]
        rfl
      rw [e]
      exact ⟨hfit i hi, trivial⟩)
    (g := F0 m pc ls (.int n :: .int dp :: .ref a :: .int sp :: .ref a0 :: st)) rfl (hl.1.trans hml.symm) (rest := st) rfl (by rw [hb]; exact hd) hf (by show 2 * 0 + _ + _ ≤ _; omega)
  have e1 : copied (arrV (G.2.1 t) n0 (fun j => Value.int (σ.2.2.1 a0 j))) (arrV (G.2.1 t) n1 (fun j => Value.int (σ.2.2.1 a j))) sp dp n = arrV (G.2.1 t) n1 (fun j => .int (va_cpy (σ.2.2.1 a0) (σ.2.2.1 a) sp.toNatClampNeg dp.toNatClampNeg n.toNatClampNeg j)) := va_copied (fun z => Value.int z) (G.2.1 t) (G.2.1 t) _ _ h4
  rw [e1] at X' step
  have hla : a < H.size := (Array.getElem?_eq_some_iff.mp g1).1
  generalize hnew : arrV (G.2.1 t) n1 (fun j => Value.int (va_cpy (σ.2.2.1 a0) (σ.2.2.1 a) sp.toNatClampNeg dp.toNatClampNeg n.toNatClampNeg j)) = cell at X' step
  have hheap : ((T.setVm vm').setCell a cell).heap = H.setIfInBounds a cell := by rw [← hT]; rfl
  have oq : ∀ q : Nat, q ≠ a → (H.setIfInBounds a cell)[q]? = H[q]? := fun q hq => by simp [Array.getElem?_setIfInBounds, Ne.symm hq]
  have hz : (H.setIfInBounds a cell).size = H.size := by simp
  have hP' : mm_P Y G A (mm_wA σ a (va_cpy (σ.2.2.1 a0) (σ.2.2.1 a) sp.toNatClampNeg dp.toNatClampNeg n.toNatClampNeg)) (H.setIfInBounds a cell) := by
    refine hP.set hs1 rfl rfl (fun q hq ty j => mm_v_wA hq ty j) hz oq ⟨ty, ht, ?_⟩
    rw [show (H.setIfInBounds a cell)[a]? = some cell by simp [Array.getElem?_setIfInBounds, hla], ← hnew]
    congr 2
    funext j
    rw [mm_v_I hty]
    simp [mm_wA]
  obtain ⟨t2, a1, b1⟩ := kk p l e s m args below meth c _ _ ls X hP' ⟨by rw [hz]; exact hS.1, fun q y1 y2 => by
      rw [oq q (fun e => y2 (by rw [e]; exact (hP.2.2 a _ hs1).1))]
      exact hS.2.1 q y1 y2, fun q hq => by
      rcases List.mem_append.mp hq with h | h
      · exact hS.2.2 q h
      · have hb2 : q.base = a := by obtain ⟨z, -, hz2⟩ := List.mem_map.mp h; rw [← hz2]
        rw [hb2]; exact (hP.2.2 a _ hs1).1⟩ hl _ hheap X'
  exact ⟨t2, step t2 a1, b1⟩
theorem mm_newaB {t K : Nat} {n : Int32} {atype : ArrayType} (ht : Y.2.2.1[t]? = some (newarray.typeOf atype)) (hg : mm_gt (newarray.typeOf atype) = true) (harr : Cond.arrayClass (newarray.typeOf atype) ∈ Y.2.2.2.1) (h0 : ¬ n < 0 ∧ n.toNatClampNeg ≤ K) (hbytes : K * componentBytes (newarray.typeOf atype) ≤ 536870912) (hck : ck + 1 ≤ R.cells) (hsk : sk + K ≤ R.slots) (hd : decode cc pc = .ok (.newarray atype, 2)) (kk : mm_J Y G own cc nL rt ini R A Qf (pc + 2) L (.ref σ.1 :: st) (mm_new σ (.inr (t, n.toNatClampNeg))) (ck + 1) (sk + K)) : mm_J Y G own cc nL rt ini R A Qf pc L (.int n :: st) σ ck sk :=
  mm_newa ht hg harr h0.1 rfl (Nat.le_trans (Nat.mul_le_mul_right _ h0.2) hbytes) hck (Nat.le_trans (Nat.add_le_add_left h0.2 _) hsk) hd (mm_widen (Nat.le_refl _) (Nat.add_le_add_left h0.2 _) kk)
end MMY
