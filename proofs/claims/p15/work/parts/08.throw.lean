/-! methods that return or throw -/
section MMT
variable {Y : mm_Y} {G : mm_G} {own : String} {cc : ByteArray} {nL : Nat} {rt : Option FieldType} {ini : Bool × Option (List (Nat × Nat × Nat × Nat))} {R : Room} {A : Nat → Prop} {Qf : List Frame → Array Value → State → State → Prop} {pc : Nat} {L : List (Nat × Value)} {st : List Value} {σ : mm_M} {ck sk : Nat}
def mm_XC (Y : mm_Y) (G : mm_G) (A : Nat → Prop) (σ : mm_M) (E : String) (PX : Prop) : String → State → State → Prop := fun E' st t => E' = E ∧ PX ∧ va_F A st t ∧ ∃ z, mm_P Y G A (z, σ.2) t.heap
abbrev mm_XF (Y : mm_Y) (G : mm_G) (A : Nat → Prop) (Post : Option Value → mm_M → Prop) (σ0 : mm_M) (E : String) (PX : Prop) (mc ms : Nat) : List Frame → Array Value → State → State → Prop := fun below args s => vx_MQ below (mm_Q Y G A Post) (mm_XC Y G A σ0 E PX) args s mc ms A
/-- R: its answer (none where it throws) and the memory behind it -/
abbrev mm_PX (R : Option Int32 × mm_M) : Option Value → mm_M → Prop := fun v s => ∃ r, R.1 = some r ∧ v = some (.int r) ∧ s = R.2
theorem mm_x {Post : Option Value → mm_M → Prop} {σ0 : mm_M} {E : String} {PX : Prop} {mc ms : Nat} (k : mm_J Y G own cc nL rt ini R A (mm_QF Y G A Post mc ms) pc L st σ ck sk) : mm_J Y G own cc nL rt ini R A (mm_XF Y G A Post σ0 E PX mc ms) pc L st σ ck sk :=
  fun p l e s m args below meth c H locs ls X hP hS hl => vx_ret (k p l e s m args below meth c H locs ls X hP hS hl)
theorem mm_nsOT (hY : mm_ok Y) {w : Cond} (hw : w ∈ Y.2.2.2.2.1) : w.onTables = true := by
  rcases hY.2.1 w hw with ⟨a, i, b, n, d, hh, rfl⟩ | ⟨a, i, x, hh, rfl⟩ | ⟨x, rfl⟩ | ⟨a, b, rfl⟩ <;> rfl
theorem mm_xc {H : Heap} {locs : List Loc} {s : State} {E : String} {PX : Prop} (hP : mm_P Y G A σ H) (hS : va_S A s.heap H locs) (hPX : PX) (t : State) (hz : H.size ≤ t.heap.size) (hq : ∀ q : Nat, q < H.size → t.heap[q]? = H[q]?) : mm_XC Y G A σ E PX E s t := by
  refine ⟨rfl, hPX, ⟨Nat.le_trans hS.1 hz, fun q h1 h2 => (hq q (Nat.lt_of_lt_of_le h1 hS.1)).trans (hS.2.1 q h1 h2)⟩, t.heap.size, rfl, fun q h => hP.2.1 q ?_, fun a sh h => ⟨(hP.2.2 a sh h).1, mm_at_congr (hP.2.2 a sh h).2 (hq a ((hP.2.2 a sh h).2.lt)) (fun ty k => by cases ty <;> rfl)⟩⟩
  rw [← hP.1]
  exact Nat.le_trans hz h
/-- what a throw of E by own's entries asks of the tables -/
def mm_tw (Y : mm_Y) (own : String) (ik ic : Nat) (E : String) (names : List String) : Prop := Bundle.fit E = true ∧ (∀ n ∈ names, Bundle.fit n = true) ∧ Cond.classLink own ik E ∈ Y.2.2.2.1 ∧ Cond.initialized E ∈ Y.2.2.2.1 ∧ (∀ w ∈ vx_atS own ic E names, w ∈ Y.2.2.2.1 ∨ w ∈ Y.2.2.2.2.1) ∧ ∀ w ∈ Cond.classLink own ik E :: Cond.initialized E :: vx_atS own ic E names, vx_ot w = true
theorem mm_throw (hY : mm_ok Y) {Post : Option Value → mm_M → Prop} {E text : String} {PX : Prop} {mc ms ik is ic : Nat} {names : List String} (hi : ini.2 = some []) (hPX : PX) (ht : mm_tw Y own ik ic E names) (hstr : (own, is, text) ∈ Y.2.2.2.2.2.2)
    (d0 : decode cc pc = .ok (.new ik, 3)) (d3 : decode cc (pc + 3) = .ok (.dup, 1)) (d4 : decode cc (pc + 4) = .ok (.ldc is, 2)) (d6 : decode cc (pc + 6) = .ok (.invokespecial ic, 3)) (d9 : decode cc (pc + 9) = .ok (.athrow, 1))
    (hRf : names.length + 3 < R.frames) (hRl : (st.map fun v => v.category).sum + (13 * (names.length + 1) + 43) ≤ R.locals) (hRc : ck + 1 ≤ R.cells) (hRs : sk + 6 ≤ R.slots) (hc : ck + 1 ≤ mc) (hs : sk + 6 ≤ ms) : mm_J Y G own cc nL rt ini R A (mm_XF Y G A Post σ E PX mc ms) pc L st σ ck sk := by
  intro p l e s m args below meth c H locs ls X hP hS hl
  obtain ⟨hx, hb, hml, hown, hts, hr, hlk, hini, hK, hlt⟩ := id X
  obtain ⟨h1, h2, h3, h4, h5, h6⟩ := ht
  obtain ⟨sa, hsa⟩ := hK.2.2.2.2.2.2 _ hstr
  exact vx_throwS hx hb hlt hown h1 h2 (hts _ h3) (hts _ h4) hsa (fun w hw => (h5 w hw).elim (fun h => hts w h) (fun h => va_Nw.use (mm_nsOT hY h) (hK.2.2.1 w h))) h6 hK.2.2.2.2.1 hK.2.2.2.2.2.1 hS (hl.1.trans hml.symm) d0 d3 d4 d6 d9 (fun x hx => (mm_tab0 (hini.2 _ hi) x hx).elim) hRf hRl hRc hRs hlk (fun t _ hz hq => mm_xc hP hS hPX t hz hq) hS.2.2 hc hs
theorem mm_throwW (hY : mm_ok Y) {Post : Option Value → mm_M → Prop} {E text : String} {PX : Prop} {mc ms ik is ic : Nat} {names : List String} (hi : ini.2 = some []) (hPX : PX) (ht : mm_tw Y own ik ic E names) (hstr : (own, is, text) ∈ Y.2.2.2.2.2.2)
    (d0 : decode cc pc = .ok (.new ik, 3)) (d3 : decode cc (pc + 3) = .ok (.dup, 1)) (d4 : decode cc (pc + 4) = .ok (.ldc_w is, 3)) (d7 : decode cc (pc + 7) = .ok (.invokespecial ic, 3)) (d10 : decode cc (pc + 10) = .ok (.athrow, 1))
    (hRf : names.length + 3 < R.frames) (hRl : (st.map fun v => v.category).sum + (13 * (names.length + 1) + 43) ≤ R.locals) (hRc : ck + 1 ≤ R.cells) (hRs : sk + 6 ≤ R.slots) (hc : ck + 1 ≤ mc) (hs : sk + 6 ≤ ms) : mm_J Y G own cc nL rt ini R A (mm_XF Y G A Post σ E PX mc ms) pc L st σ ck sk := by
  intro p l e s m args below meth c H locs ls X hP hS hl
  obtain ⟨hx, hb, hml, hown, hts, hr, hlk, hini, hK, hlt⟩ := id X
  obtain ⟨h1, h2, h3, h4, h5, h6⟩ := ht
  obtain ⟨sa, hsa⟩ := hK.2.2.2.2.2.2 _ hstr
  exact vx_throwSW hx hb hlt hown h1 h2 (hts _ h3) (hts _ h4) hsa (fun w hw => (h5 w hw).elim (fun h => hts w h) (fun h => va_Nw.use (mm_nsOT hY h) (hK.2.2.1 w h))) h6 hK.2.2.2.2.1 hK.2.2.2.2.2.1 hS (hl.1.trans hml.symm) d0 d3 d4 d7 d10 (fun x hx => (mm_tab0 (hini.2 _ hi) x hx).elim) hRf hRl hRc hRs hlk (fun t _ hz hq => mm_xc hP hS hPX t hz hq) hS.2.2 hc hs
end MMT
/-- a method's contract at a start, that returns or throws E -/
def mm_CX (Y : mm_Y) (G : mm_G) (y : MethodName) (cb : ByteArray) (nb : Nat) (rb : Option FieldType) (rm : Room) (A : Nat → Prop) (As : List Value) (σ : mm_M) (Post : Option Value → mm_M → Prop) (σx : mm_M) (E : String) (PX : Prop) : Prop :=
  ∀ l : Launch, l.stackTraces = false → vx_Met l y (Cond.code y cb nb rb :: Y.2.2.2.1) rm (va_Pc As (fun U => mm_K Y G A U ∧ mm_P Y G A σ U.heap)) (mm_Q Y G A Post) (mm_XC Y G A σx E PX) rm.cells rm.slots A
theorem mm_CX.of {Y : mm_Y} {G : mm_G} {y : MethodName} {cb : ByteArray} {nb : Nat} {rb : Option FieldType} {rm : Room} {A : Nat → Prop} {As : List Value} {σ : mm_M} {Post : Option Value → mm_M → Prop} {σx : mm_M} {E : String} {PX : Prop} (hy : plainName y.cls = true) (hl : (lg_sl As).length ≤ nb)
    (h : mm_J Y G y.cls cb nb rb (false, some []) rm A (mm_XF Y G A Post σx E PX rm.cells rm.slots) 0 (lv_args 0 As) [] σ 0 0) : mm_CX Y G y cb nb rb rm A As σ Post σx E PX := by
  intro l hlt
  refine vx_ofW (cc := cb) (maxL := nb) (ret := rb) hy rfl ?_
  intro p e s m args below meth c s₁ B hml htab hv
  obtain ⟨rfl, hK, hP⟩ := hv
  have hts := atoms_spec (ws := Cond.code y cb nb rb :: Y.2.2.2.1) B.pre
  rw [lg_entry_eq]
  exact h p l e s m _ below meth c s.heap [] _ ⟨B.exec, B.bytes, hml, findClass_of_methodNamed B.named, fun w hw => hts w (List.mem_cons_of_mem _ hw), B.returns, B.notSynchronized, ⟨fun hi => (by cases hi), fun hh hi => (by cases hi; exact mm_tabE htab)⟩, hK, hlt⟩ hP va_S.rf (lv_entry As hl)
