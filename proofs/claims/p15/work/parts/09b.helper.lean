/-! methods with a table of their own (the law's helpers): contract, call; a call of a method that may throw under a handler. Behind the catch laws (the whole library) -/
def mm_CW (Y : mm_Y) (G : mm_G) (y : MethodName) (cb : ByteArray) (nb : Nat) (rb : Option FieldType) (hh : List (Nat × Nat × Nat × Nat)) (rm : Room) (A : Nat → Prop) (As : List Value) (σ : mm_M) (Post : Option Value → mm_M → Prop) : Prop :=
  ∀ l : Launch, l.stackTraces = false → Met l y (Cond.codeWith y cb nb rb hh :: Y.2.2.2.1) rm (va_Pc As (fun U => mm_K Y G A U ∧ mm_P Y G A σ U.heap)) (mm_Q Y G A Post) rm.cells rm.slots A
theorem mm_CW.of {Y : mm_Y} {G : mm_G} {y : MethodName} {cb : ByteArray} {nb : Nat} {rb : Option FieldType} {hh : List (Nat × Nat × Nat × Nat)} {rm : Room} {A : Nat → Prop} {As : List Value} {σ : mm_M} {Post : Option Value → mm_M → Prop} (hy : plainName y.cls = true) (hl : (lg_sl As).length ≤ nb)
    (h : mm_J Y G y.cls cb nb rb (false, some hh) rm A (mm_QF Y G A Post rm.cells rm.slots) 0 (lv_args 0 As) [] σ 0 0) : mm_CW Y G y cb nb rb hh rm A As σ Post := by
  intro l hlt
  refine va_MetW (cc := cb) (maxL := nb) (ret := rb) (hh := hh) hy rfl ?_
  intro p e s m args below meth c s₁ B hml hv
  obtain ⟨rfl, hK, hP⟩ := hv
  have hts := atoms_spec (ws := Cond.codeWith y cb nb rb hh :: Y.2.2.2.1) B.pre
  obtain ⟨m9, meth9, c9, hn9, g1, g2, -, -, g6, -⟩ := Cond.codeWith_spec (hts _ List.mem_cons_self)
  cases Option.some.inj (hn9.symm.trans B.named)
  cases Option.some.inj (g1.symm.trans B.method)
  cases Option.some.inj (g2.symm.trans (Stand.of_body B).code)
  rw [lg_entry_eq]
  exact h p l e s m _ below meth c s.heap [] _ ⟨B.exec, B.bytes, hml, findClass_of_methodNamed B.named, fun w hw => hts w (List.mem_cons_of_mem _ hw), B.returns, B.notSynchronized, ⟨fun hi => (by cases hi), fun h9 hi => (by cases hi; exact g6)⟩, hK, hlt⟩ hP va_S.rf (lv_entry As hl)
section MMH
variable {Y : mm_Y} {G : mm_G} {own : String} {cc : ByteArray} {nL : Nat} {rt : Option FieldType} {ini : Bool × Option (List (Nat × Nat × Nat × Nat))} {R : Room} {A : Nat → Prop} {Qf : List Frame → Array Value → State → State → Prop} {pc : Nat} {L : List (Nat × Value)} {st : List Value} {σ : mm_M} {ck sk : Nat}
theorem mm_callSW (hY : mm_ok Y) {y : MethodName} {cb : ByteArray} {nb : Nat} {rb : Option FieldType} {hh : List (Nat × Nat × Nat × Nat)} {rm : Room} {As : List Value} {Post : Option Value → mm_M → Prop} {idx n : Nat} {rest : List Value} (hM : mm_CW Y G y cb nb rb hh rm A As σ Post) (hln : Cond.methodLink own idx y ∈ Y.2.2.2.1) (hcd : Cond.codeWith y cb nb rb hh ∈ Y.2.2.2.1) (hinit : Cond.initialized y.cls ∈ Y.2.2.2.1) (hst : Cond.static y ∈ Y.2.2.2.1) (hnm : mm_nm y n) (hn : As.length = n)
    (hstk : st = As.reverse ++ rest) (hw : (rest.map fun v => v.category).sum ≤ 8) (hd : decode cc pc = .ok (.invokestatic idx, 3)) (hfr : rm.frames + 1 ≤ R.frames ∧ 8 + (nb + 11) + rm.locals ≤ R.locals) (hcl : ck + rm.cells ≤ R.cells ∧ sk + rm.slots ≤ R.slots)
    (kk : ∀ v σ', Post v σ' → mm_J Y G own cc nL rt ini R A Qf (pc + 3) L (v.toList ++ rest) σ' (ck + rm.cells) (sk + rm.slots)) : mm_J Y G own cc nL rt ini R A Qf pc L st σ ck sk := by
  intro p l e s m args below meth c H locs ls X hP hS hl
  obtain ⟨hx, hb, hml, hown, hts, hr, hlk, hini, hK, hlt⟩ := id X
  have hpre : PreS s H (va_Pc As (fun U => mm_K Y G A U ∧ mm_P Y G A σ U.heap)) As := ⟨mm_blind hY As, fun U hU hW => ⟨rfl, hK.moved hY hW (fun q h1 h2 => by rw [hU]; exact hS.2.1 q h1 h2), by rw [hU]; exact hP⟩⟩
  have hG : GoodIn Y.2.2.2.1 (Cond.codeWith y cb nb rb hh :: Y.2.2.2.1) := fun w hw => by
    have hw' : w ∈ Y.2.2.2.1 := (List.mem_cons.mp hw).elim (fun e => by rw [e]; exact hcd) id
    exact ⟨hw', hY.2.2 w hw'⟩
  refine mm_after (vx_runSW (Ts := Y.2.2.2.1) ⟨hx, hb, hml, hown, hts⟩ (hM l hlt) ⟨⟨rfl, rfl, hfr.1, hfr.2, pay_in hts hG, List.mem_cons_self⟩, hts _ hcd, hts _ hinit, ⟨hnm.1, hnm.2.1⟩, fun sig h => ?_, hts _ hln, hts _ hst⟩ hpre rfl hn hl.1 hstk (lv_room hw) hd hcl) X hS hl kk
  have h2 := hnm.2.2
  rw [h] at h2
  exact (Option.some.inj h2).symm
theorem mm_callVX (hY : mm_ok Y) {y : MethodName} {cb : ByteArray} {nb : Nat} {rb : Option FieldType} {rm : Room} {As : List Value} {Rr : Option Int32 × mm_M} {E : String} {idx n b ci a1 b1 hpc ct : Nat} {rc : vw_C} {rest : List Value} (hM : mm_CX Y G y cb nb rb rm A (.ref b :: As) σ (mm_PX Rr) Rr.2 E (Rr.1 = none)) (hs : σ.2.1 b = some (.inl ci)) (hc : Y.1[ci]? = some rc) (hln : Cond.methodLink own idx y ∈ Y.2.2.2.1) (hcd : mm_cd Y y cb nb rb) (hin : Cond.instanceMethod y ∈ Y.2.2.2.1) (hse : Cond.selects rc.1 y y ∈ Y.2.2.2.1) (hnm : mm_nm y n) (hn : As.length = n)
    (hstk : st = As.reverse ++ .ref b :: rest) (hw : (rest.map fun v => v.category).sum ≤ 8) (hd : decode cc pc = .ok (.invokevirtual idx, 3)) (hfr : rm.frames + 1 ≤ R.frames ∧ 8 + (nb + 11) + rm.locals ≤ R.locals) (hcl : ck + rm.cells ≤ R.cells ∧ sk + rm.slots ≤ R.slots)
    (hi : ini.2 = some [(a1, b1, hpc, ct)]) (hcov : a1 ≤ pc ∧ pc < b1) (hct : ct ≠ 0) (hlink : Cond.classLink own ct E ∈ Y.2.2.2.1) (hcast : Cond.castable E E ∈ Y.2.2.2.2.1)
    (kk : ∀ r, Rr.1 = some r → mm_J Y G own cc nL rt ini R A Qf (pc + 3) L (.int r :: rest) Rr.2 (ck + rm.cells) (sk + rm.slots))
    (kx : Rr.1 = none → ∀ q z, mm_J Y G own cc nL rt ini R A Qf hpc L [.ref q] (z, Rr.2.2) (ck + rm.cells) (sk + rm.slots)) : mm_J Y G own cc nL rt ini R A Qf pc L st σ ck sk := by
  intro p l e s m args below meth c H locs ls X hP hS hl T hT XT
  obtain ⟨hx, hb, hml, hown, hts, hr, hlk, hini, hK, hlt⟩ := id X
  have hpre : PreV s H rc.1 b (va_Pc (.ref b :: As) (fun U => mm_K Y G A U ∧ mm_P Y G A σ U.heap)) As := ⟨mm_blind hY _, mm_recv hK hP hs hc, fun U hU hW => ⟨rfl, hK.moved hY hW (fun q h1 h2 => by rw [hU]; exact hS.2.1 q h1 h2), by rw [hU]; exact hP⟩⟩
  have hrun := vx_runV (Ts := Y.2.2.2.1) (locs := locs) (cells := ck) (slots := sk) (e := e) (below := below) (meth := meth) (g := F0 m pc ls st) (rest := rest) ⟨hx, hb, hml, hown, hts⟩ (hM l hlt) ⟨callB_of n hts (mm_goodTs hY hcd.1) rfl rfl rfl (hts _ hcd.2) (hts _ hln) hnm hfr, hts _ hin, hts _ hse⟩ hpre rfl hn hl.1 hstk (lv_room hw) hd hcl
  rcases hrun T hT XT with ⟨v, st₀, t, T', L', h0, X', hL, e1, e2, ⟨⟨v', σ', hv, ⟨r, hr1, hr2, hr3⟩, hb2⟩, hz, hk⟩, stp⟩ | ⟨q, st₀, t, T', L', E', ce, h0, X', hL, e1, e2, ⟨hE, hpx, hF, z, hP'⟩, hce, hcv, hclE, stp⟩
  · cases hv
    subst hr2
    subst hr3
    rw [h0] at hz hk
    obtain ⟨t2, y1, y2⟩ := kk r hr1 p l e s m args below meth c T'.heap (locs ++ L') ls X (by rw [e1]; exact hb2) ⟨Nat.le_trans hS.1 (by rw [e1]; exact hz), fun q h1 h2 => by rw [e1, hk q (Nat.lt_of_lt_of_le h1 hS.1) h2]; exact hS.2.1 q h1 h2, fun q hq => (List.mem_append.mp hq).elim (hS.2.2 q) (hL q)⟩ hl T' rfl X'
    exact ⟨t2, stp t2 y1, y2⟩
  · subst hE
    obtain ⟨hz, hk⟩ := hF
    rw [h0] at hz hk
    have htab : c.exceptionTable.toList.map (fun x => (x.startPc, x.endPc, x.handlerPc, x.catchType)) = [(a1, b1, hpc, ct)] := hini.2 _ hi
    obtain ⟨x, hx1, hx2⟩ := List.map_eq_singleton_iff.mp htab
    simp only [Prod.mk.injEq] at hx2
    obtain ⟨p1, p2, p3, p4⟩ := hx2
    have hW := vx_catch (p := p) (l := l) (e := e) (R := R) (s := s) (m := m) (args := args) (below := below) (meth := meth) (c := c) (H := T'.heap) (locs := locs ++ L') (cells := ck + rm.cells) (slots := sk + rm.slots) (Q := Qf below args s) (pc := pc) (ls := ls) (rest := rest) (own := own) (name := E') (E := E') (ce := ce) (q := q) hown [] x [] (by rw [hx1]; rfl) (fun z hz => by cases hz) (by simp [covers, p1, p2, hcov.1, hcov.2]) (by rw [p4]; exact hct) (by rw [p4]; exact hts _ hlink) (va_Nw.use rfl (hK.2.2.1 _ hcast)) (by rw [e1]; exact hce) hcv hclE
      (by
        rw [p3]
        exact kx hpx q z p l e s m args below meth c T'.heap (locs ++ L') ls X (by rw [e1]; exact hP') ⟨Nat.le_trans hS.1 (by rw [e1]; exact hz), fun q h1 h2 => by rw [e1, hk q (Nat.lt_of_lt_of_le h1 hS.1) h2]; exact hS.2.1 q h1 h2, fun q hq => (List.mem_append.mp hq).elim (hS.2.2 q) (hL q)⟩ hl)
    obtain ⟨t2, y1, y2⟩ := hW T' rfl X'
    exact ⟨t2, stp.trans y1, y2⟩
end MMH
