/-! THE CLAIM OUT OF ONE WALK OF THE LAW'S BODY. Your part is whole_start (and what it stands on); all else here is the same for every law, but numbers. -/
def R_law : String := "CaptionDeskLaw"
def lw_P (b : Addr) (xs : List Int32) (args : Array Value) (s : State) : Prop := args = #[.ref b] ∧ s.IntsAt b xs ∧ xs.length ≤ 3072 ∧ (Jvm.Cond.and given_1 narrow_1).before args s = true
def lw_Q (_ : Array Value) (s : State) (o : Outcome) (t : State) : Prop := o = .returned (some (.int 1)) ∧ Framed s o t [] 601024 7293034
def lw_Z (below : List Frame) (a : Array Value) (s : State) : State → Prop := fun t => ∃ o, t.status = .running ∧ Ended t below o ∧ lw_Q a s o t
/-- the law's own end, with 1 on the stack, nothing written that was there before, its room as the claim has it -/
theorem lw_ret {p : Program} {l : Launch} {e : Env} {s : State} {m : MethodId} {below : List Frame} {meth : Method} {c : Code} {b : Nat} (hx : p.tables.exec = Jvm.exec) (hb : c.code = code) (hr : meth.sig.returnType = ret) (hlocks : meth.locks = false) {pc : Nat} {H : Heap} {ls : Array Slot} (hdg : decode code pc = .ok (.ireturn, 1)) : W p l e room_1 s m #[Value.ref b] below meth c H [] 601024 7293034 (lw_Z below #[Value.ref b] s) (F0 m pc ls [.int 1]) := by
  intro T hT X
  obtain ⟨fs, hret, hrun, hended, hW, hframe⟩ := X.leave (v := some (.int 1)) (hlocks := hlocks) (fun h => by rw [hr] at h; cases h)
  have hmeth' : T.vm.method? m = some meth := X.method'
  refine ⟨T.setFrames fs, ?_, .returned (some (.int 1)), hrun, hended, rfl, ⟨_, rfl⟩, hW, hframe⟩
  jvm_step X.here [X.here.top, hx, hb, hdg, hmeth', hr, ret, narrow_b1]
  (try refine ⟨rfl, ?_⟩); (try refine ⟨rfl, ?_⟩)
  first | (intro acts; rw [hret _ acts rfl rfl rfl]) | rw [hret _ _ rfl rfl rfl]
  exact Steps.refl _
/-- what holds at the law's entry: the machine, the code, the tables' words (any of lw_tbl by 'hts w (by decide +kernel)'), the script of L ints xs at the cell b, what the Statement gives of the start (any of its parts by flat_of_before) -/
def lw_At (p : Program) (s : State) (m : MethodId) (meth : Method) (c : Code) (b L : Nat) (xs : Nat → Int32) : Prop :=
  p.tables.exec = Jvm.exec ∧ c.code = code ∧ meth.sig.returnType = ret ∧ c.maxLocals = 7 ∧ s.vm.findClass R_law = some m.cls ∧ (∀ w ∈ lw_tbl, w.before #[Value.ref b] s = true) ∧ va_X b L xs s s.heap ∧ b < s.heap.size ∧ meth.locks = false ∧ (Jvm.Cond.and given_1 narrow_1).before #[Value.ref b] s = true
abbrev LWC : Nat := 601024
abbrev LWS : Nat := 7293034
/-! The law's own rows: reading the script, comparing longs, its end; the judgement JL of the law's body -/
def lw_F (b L : Nat) (xs : Nat → Int32) (A : Nat → Prop) (s : State) : Prop := va_X b L xs s s.heap ∧ b < s.heap.size ∧ ¬ A b ∧ ∀ q, A q → s.heap.size ≤ q
def lw_Qf (b L : Nat) (xs : Nat → Int32) (A : Nat → Prop) : List Frame → Array Value → State → State → Prop := fun below args s t => lw_F b L xs A s → lw_Z below args s t
abbrev JL (G : mm_G) (A : Nat → Prop) (b L : Nat) (xs : Nat → Int32) (pc : Nat) (Lc : List (Nat × Value)) (st : List Value) (σ : mm_M) (ck sk : Nat) : Prop := mm_J cd_Y G RL cL_law 7 ret (false, none) room_1 A (lw_Qf b L xs A) pc Lc st σ ck sk
section LW
variable {G : mm_G} {A : Nat → Prop} {b L : Nat} {xs : Nat → Int32} {pc : Nat} {Lc : List (Nat × Value)} {st : List Value} {σ : mm_M} {ck sk : Nat}
theorem lw_slen (hd : decode cL_law pc = .ok (.arraylength, 1)) (k : JL G A b L xs (pc + 1) Lc (.int (Int32.ofNat L) :: st) σ ck sk) : JL G A b L xs pc Lc (.ref b :: st) σ ck sk := by
  intro p l e s m args below meth c H locs ls X hP hS hl
  by_cases hF : lw_F b L xs A s
  · exact va_slen X.1 X.2.1 hF.1 hF.2.1 hF.2.2.1 hS hd (k p l e s m args below meth c H locs ls X hP hS hl)
  · exact fun T hT XT => ⟨_, Steps.refl _, fun h => absurd h hF⟩
theorem lw_sld {i : Int32} (hin : vp_in i L) (hd : decode cL_law pc = .ok (.iaload, 1)) (k : JL G A b L xs (pc + 1) Lc (.int (xs i.toNatClampNeg) :: st) σ ck sk) : JL G A b L xs pc Lc (.int i :: .ref b :: st) σ ck sk := by
  intro p l e s m args below meth c H locs ls X hP hS hl
  by_cases hF : lw_F b L xs A s
  · exact va_sld X.1 X.2.1 hF.1 hF.2.1 hF.2.2.1 hS hin hd (k p l e s m args below meth c H locs ls X hP hS hl)
  · exact fun T hT XT => ⟨_, Steps.refl _, fun h => absurd h hF⟩
theorem lw_lcmp {x y : Int64} (hd : decode cL_law pc = .ok (.lcmp, 1)) (k : JL G A b L xs (pc + 1) Lc (.int (lg_cmp x y) :: st) σ ck sk) : JL G A b L xs pc Lc (.long y :: .long x :: st) σ ck sk :=
  fun p l e s m args below meth c H locs ls X hP hS hl => W.lcmp X.1 X.2.1 hd (k p l e s m args below meth c H locs ls X hP hS hl)
/-- the law's own end -/
theorem lw_retA {p : Program} {l : Launch} {e : Env} {s : State} {m : MethodId} {args : Array Value} {below : List Frame} {meth : Method} {c : Code} (hx : p.tables.exec = Jvm.exec) (hb : c.code = code) (hr : meth.sig.returnType = ret) (hlocks : meth.locks = false) {pc : Nat} {H : Heap} {ls : Array Slot} (hdg : decode code pc = .ok (.ireturn, 1)) : W p l e room_1 s m args below meth c H [] LWC LWS (lw_Z below args s) (F0 m pc ls [.int 1]) := by
  intro T hT X
  obtain ⟨fs, hret, hrun, hended, hW, hframe⟩ := X.leave (v := some (.int 1)) (hlocks := hlocks) (fun h => by rw [hr] at h; cases h)
  have hmeth' : T.vm.method? m = some meth := X.method'
  refine ⟨T.setFrames fs, ?_, .returned (some (.int 1)), hrun, hended, rfl, ⟨_, rfl⟩, hW, hframe⟩
  jvm_step X.here [X.here.top, hx, hb, hdg, hmeth', hr, ret, narrow_b1]
  (try refine ⟨rfl, ?_⟩); (try refine ⟨rfl, ?_⟩)
  first | (intro acts; rw [hret _ acts rfl rfl rfl]) | rw [hret _ _ rfl rfl rfl]
  exact Steps.refl _
theorem lw_end (hck : ck ≤ LWC) (hsk : sk ≤ LWS) (hd : decode cL_law pc = .ok (.ireturn, 1)) : JL G A b L xs pc Lc [.int 1] σ ck sk := by
  intro p l e s m args below meth c H locs ls X hP hS hl
  by_cases hF : lw_F b L xs A s
  · have h := va_forget (fun q hq => hF.2.2.2 _ (hS.2.2 q hq)) (W.widen hck hsk (lw_retA (p := p) (l := l) (e := e) (s := s) (m := m) (args := args) (below := below) (meth := meth) (c := c) (H := H) (ls := ls) X.1 X.2.1 X.2.2.2.2.2.1 X.2.2.2.2.2.2.1 hd))
    exact fun T hT XT => by
      obtain ⟨t, h1, h2⟩ := h T hT XT
      exact ⟨t, h1, fun _ => h2⟩
  · exact fun T hT XT => ⟨_, Steps.refl _, fun h => absurd h hF⟩
/-- every address with a shape lies below the size -/
theorem lw_lt (k : (∀ a sh, σ.2.1 a = some sh → a < σ.1) → JL G A b L xs pc Lc st σ ck sk) : JL G A b L xs pc Lc st σ ck sk :=
  fun p l e s m args below meth c H locs ls X hP hS hl => k (fun a sh h => hP.lt h) p l e s m args below meth c H locs ls X hP hS hl
theorem lw_callH {y : MethodName} {cb : ByteArray} {nb : Nat} {rb : Option FieldType} {hh : List (Nat × Nat × Nat × Nat)} {rm : Room} {As : List Value} {Rr : Option Int32 × mm_M} {out idx n : Nat} {rest : List Value} (hM : mm_CW cd_Y G y cb nb rb hh rm A As σ (mm_PH Rr out)) (hln : Cond.methodLink RL idx y ∈ cd_Y.2.2.2.1) (hcd : Cond.codeWith y cb nb rb hh ∈ cd_Y.2.2.2.1) (hinit : Cond.initialized y.cls ∈ cd_Y.2.2.2.1) (hst : Cond.static y ∈ cd_Y.2.2.2.1) (hnm : mm_nm y n) (hn : As.length = n)
    (hstk : st = As.reverse ++ rest) (hw : (rest.map fun v => v.category).sum ≤ 8) (hd : decode cL_law pc = .ok (.invokestatic idx, 3)) (hfr : rm.frames + 1 ≤ room_1.frames ∧ 8 + (nb + 11) + rm.locals ≤ room_1.locals) (hcl : ck + rm.cells ≤ room_1.cells ∧ sk + rm.slots ≤ room_1.slots)
    (k0 : ∀ r, Rr.1 = some r → JL G A b L xs (pc + 3) Lc (.int 0 :: rest) (mm_wL Rr.2 out (0 : Int32).toNatClampNeg r.toInt64) (ck + rm.cells) (sk + rm.slots))
    (k1 : Rr.1 = none → ∀ z, JL G A b L xs (pc + 3) Lc (.int 1 :: rest) (z, Rr.2.2) (ck + rm.cells) (sk + rm.slots)) : JL G A b L xs pc Lc st σ ck sk :=
  mm_callSW cd_ok hM hln hcd hinit hst hnm hn hstk hw hd hfr hcl (fun v σ' h => by
    rcases h with ⟨r, h1, rfl, rfl⟩ | ⟨h1, rfl, z, rfl⟩
    · exact k0 r h1
    · exact k1 h1 z)
end LW
theorem lw_in {i n : Int32} {L : Nat} (h : 0 ≤ i.toInt ∧ i.toInt + 6 ≤ L ∧ L ≤ 4000) (hn : 0 ≤ n.toInt ∧ n.toInt ≤ 5) : vp_in (i + n) L := by
  have e : (i + n).toInt = i.toInt + n.toInt := by rw [zi_add]; exact zi_bm (by omega) (by omega)
  intro q
  rcases q with q | q
  · rw [zi_lt, e] at q; simp only [Int32.reduceToInt] at q; omega
  · rw [zi_clamp, e] at q; omega
theorem lw_in0 {i : Int32} {L : Nat} (h : 0 ≤ i.toInt ∧ i.toInt + 6 ≤ L ∧ L ≤ 4000) : vp_in i L := by
  intro q
  rcases q with q | q
  · rw [zi_lt] at q; simp only [Int32.reduceToInt] at q; omega
  · rw [zi_clamp] at q; omega
theorem lw_cmp_eq (x : Int64) : lg_cmp x x = 0 := by simp [lg_cmp]
theorem lw_last0 {n : Nat} (h : 0 < n) : vp_in 0 n := mm_in0 h
