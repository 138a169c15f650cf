section MMC
variable {Y : mm_Y} {G : mm_G} {own : String} {cc : ByteArray} {nL : Nat} {rt : Option FieldType} {ini : Bool × Option (List (Nat × Nat × Nat × Nat))} {R : Room} {A : Nat → Prop} {Qf : List Frame → Array Value → State → State → Prop} {pc : Nat} {L : List (Nat × Value)} {st : List Value} {σ : mm_M} {ck sk : Nat}
theorem mm_blind (hY : mm_ok Y) (As : List Value) : FrameBlind (va_Pc As (fun U => mm_K Y G A U ∧ mm_P Y G A σ U.heap)) := by
  intro a U g mk h
  obtain ⟨h1, h2, h3⟩ := h
  exact ⟨h1, mm_K.moved (u := U) (U := U.calling g mk a) hY (State.WarmedH.refl U) (fun _ _ _ => rfl) h2, h3⟩
theorem mm_goodTs (hY : mm_ok Y) {y : MethodName} {cb : ByteArray} {nb : Nat} {rb : Option FieldType} (h : Cond.code y cb nb rb ∈ Y.2.2.2.1) : GoodIn Y.2.2.2.1 (Cond.code y cb nb rb :: Y.2.2.2.1) := fun w hw => by
  have hw' : w ∈ Y.2.2.2.1 := (List.mem_cons.mp hw).elim (fun e => by rw [e]; exact h) id
  exact ⟨hw', hY.2.2 w hw'⟩
/-- what a callee's name must be -/
def mm_nm (y : MethodName) (n : Nat) : Prop := y.cls ≠ "java/lang/invoke/MethodHandle" ∧ y.cls ≠ "java/lang/invoke/VarHandle" ∧ (parseMethodDescriptor y.desc).map (fun d => d.parameters.length) = some n
/-- a call's entry: by an own link or a nest mate's -/
def mm_ln (Y : mm_Y) (own : String) (idx : Nat) (y : MethodName) : Prop := Cond.methodLink own idx y ∈ Y.2.2.2.1 ∨ ∃ host, Cond.methodLinkNest own idx y host ∈ Y.2.2.2.2.1
def mm_cd (Y : mm_Y) (y : MethodName) (cb : ByteArray) (nb : Nat) (rb : Option FieldType) : Prop := Cond.code y cb nb rb ∈ Y.2.2.2.1 ∧ Cond.initialized y.cls ∈ Y.2.2.2.1
theorem mm_after {p : Program} {l : Launch} {e : Env} {s : State} {m : MethodId} {args : Array Value} {below : List Frame} {meth : Method} {c : Code} {H : Heap} {locs : List Loc} {ls : Array Slot} {Post : Option Value → mm_M → Prop} {mc ms : Nat} {rest : List Value} {a : Array Value}
    (hr : va_Run p l e R s m args below meth c H locs ck sk mc ms (F0 m pc ls st) rest (mm_Q Y G A Post a) A) (X : mm_X Y G A own cc nL rt ini p l s m args meth c) (hS : va_S A s.heap H locs) (hl : lv_has ls nL L)
    (kk : ∀ v σ', Post v σ' → mm_J Y G own cc nL rt ini R A Qf (pc + 3) L (v.toList ++ rest) σ' (ck + mc) (sk + ms)) : W p l e R s m args below meth c H locs ck sk (Qf below args s) (F0 m pc ls st) := by
  intro T hT XT
  obtain ⟨v, st₀, t, T', L', h0, X', hL, e1, e2, ⟨⟨v', σ', hv, hp, hb⟩, hz, hk⟩, stp⟩ := hr T hT XT
  cases hv
  rw [h0] at hz hk
  obtain ⟨t2, a1, b1⟩ := kk v σ' hp p l e s m args below meth c T'.heap (locs ++ L') ls X (by rw [e1]; exact hb) ⟨Nat.le_trans hS.1 (by rw [e1]; exact hz), fun q h1 h2 => by rw [e1, hk q (Nat.lt_of_lt_of_le h1 hS.1) h2]; exact hS.2.1 q h1 h2, fun q hq => (List.mem_append.mp hq).elim (hS.2.2 q) (hL q)⟩ hl T' rfl X'
  exact ⟨t2, stp t2 a1, b1⟩
theorem mm_callS (hY : mm_ok Y) {y : MethodName} {cb : ByteArray} {nb : Nat} {rb : Option FieldType} {rm : Room} {As : List Value} {Post : Option Value → mm_M → Prop} {idx n : Nat} {rest : List Value} (hM : mm_C Y G y cb nb rb rm A As σ Post) (hln : mm_ln Y own idx y) (hcd : mm_cd Y y cb nb rb) (hst : Cond.static y ∈ Y.2.2.2.1) (hnm : mm_nm y n) (hn : As.length = n)
    (hstk : st = As.reverse ++ rest) (hw : (rest.map fun v => v.category).sum ≤ 8) (hd : decode cc pc = .ok (.invokestatic idx, 3)) (hfr : rm.frames + 1 ≤ R.frames ∧ 8 + (nb + 11) + rm.locals ≤ R.locals) (hcl : ck + rm.cells ≤ R.cells ∧ sk + rm.slots ≤ R.slots)
    (kk : ∀ v σ', Post v σ' → mm_J Y G own cc nL rt ini R A Qf (pc + 3) L (v.toList ++ rest) σ' (ck + rm.cells) (sk + rm.slots)) : mm_J Y G own cc nL rt ini R A Qf pc L st σ ck sk := by
  intro p l e s m args below meth c H locs ls X hP hS hl
  obtain ⟨hx, hb, hml, hown, hts, hr, hlk, hini, hK, hlt⟩ := id X
  have hpre : PreS s H (va_Pc As (fun U => mm_K Y G A U ∧ mm_P Y G A σ U.heap)) As := ⟨mm_blind hY As, fun U hU hW => ⟨rfl, hK.moved hY hW (fun q h1 h2 => by rw [hU]; exact hS.2.1 q h1 h2), by rw [hU]; exact hP⟩⟩
  rcases hln with hln | ⟨host, hln⟩
  · exact mm_after (va_runS (Ts := Y.2.2.2.1) ⟨hx, hb, hml, hown, hts⟩ (hM l hlt) ⟨callB_of n hts (mm_goodTs hY hcd.1) rfl rfl rfl (hts _ hcd.2) (hts _ hln) hnm hfr, hts _ hst⟩ hpre rfl hn hl.1 hstk (lv_room hw) hd hcl) X hS hl kk
  · exact mm_after (va_runSN (Ts := Y.2.2.2.1) ⟨hx, hb, hml, hown, hts⟩ (hM l hlt) ⟨va_cnB n hts (mm_goodTs hY hcd.1) rfl rfl rfl (hK.2.2.1 _ hln) (hts _ hcd.2) hnm hfr, hts _ hst, trivial⟩ hpre rfl hn hl.1 hstk (lv_room hw) hd hcl) X hS hl kk
theorem mm_recv {H : Heap} {s : State} (hK : mm_K Y G A s) (hP : mm_P Y G A σ H) {b cb : Nat} {r : vw_C} (hs : σ.2.1 b = some (.inl cb)) (hc : Y.1[cb]? = some r) : ∃ cell : Cell, H[b]? = some cell ∧ cell.vm.isStatics = false ∧ s.vm.findClass r.1 = some cell.cls := by
  obtain ⟨r', h1, cell, q1, q2, q3, -⟩ := (hP.2.2 b _ hs).2
  exact ⟨cell, q1, by rw [q3]; rfl, by rw [q2]; exact (hK.1 cb r hc).2.1⟩
theorem mm_callV (hY : mm_ok Y) {y : MethodName} {cb : ByteArray} {nb : Nat} {rb : Option FieldType} {rm : Room} {As : List Value} {Post : Option Value → mm_M → Prop} {idx n b ci : Nat} {r : vw_C} {rest : List Value} (hM : mm_C Y G y cb nb rb rm A (.ref b :: As) σ Post) (hs : σ.2.1 b = some (.inl ci)) (hc : Y.1[ci]? = some r) (hln : mm_ln Y own idx y) (hcd : mm_cd Y y cb nb rb) (hin : Cond.instanceMethod y ∈ Y.2.2.2.1) (hse : Cond.selects r.1 y y ∈ Y.2.2.2.1) (hnm : mm_nm y n) (hn : As.length = n)
    (hstk : st = As.reverse ++ .ref b :: rest) (hw : (rest.map fun v => v.category).sum ≤ 8) (hd : decode cc pc = .ok (.invokevirtual idx, 3)) (hfr : rm.frames + 1 ≤ R.frames ∧ 8 + (nb + 11) + rm.locals ≤ R.locals) (hcl : ck + rm.cells ≤ R.cells ∧ sk + rm.slots ≤ R.slots)
    (kk : ∀ v σ', Post v σ' → mm_J Y G own cc nL rt ini R A Qf (pc + 3) L (v.toList ++ rest) σ' (ck + rm.cells) (sk + rm.slots)) : mm_J Y G own cc nL rt ini R A Qf pc L st σ ck sk := by
  intro p l e s m args below meth c H locs ls X hP hS hl
  obtain ⟨hx, hb, hml, hown, hts, hr, hlk, hini, hK, hlt⟩ := id X
  have hpre : PreV s H r.1 b (va_Pc (.ref b :: As) (fun U => mm_K Y G A U ∧ mm_P Y G A σ U.heap)) As := ⟨mm_blind hY _, mm_recv hK hP hs hc, fun U hU hW => ⟨rfl, hK.moved hY hW (fun q h1 h2 => by rw [hU]; exact hS.2.1 q h1 h2), by rw [hU]; exact hP⟩⟩
  rcases hln with hln | ⟨host, hln⟩
  · exact mm_after (va_runV (Ts := Y.2.2.2.1) ⟨hx, hb, hml, hown, hts⟩ (hM l hlt) ⟨callB_of n hts (mm_goodTs hY hcd.1) rfl rfl rfl (hts _ hcd.2) (hts _ hln) hnm hfr, hts _ hin, hts _ hse⟩ hpre rfl hn hl.1 hstk (lv_room hw) hd hcl) X hS hl kk
  · exact mm_after (va_runVN (Ts := Y.2.2.2.1) ⟨hx, hb, hml, hown, hts⟩ (hM l hlt) ⟨va_cnB n hts (mm_goodTs hY hcd.1) rfl rfl rfl (hK.2.2.1 _ hln) (hts _ hcd.2) hnm hfr, hts _ hin, hts _ hse⟩ hpre rfl hn hl.1 hstk (lv_room hw) hd hcl) X hS hl kk
theorem mm_callI (hY : mm_ok Y) {y : MethodName} {cb : ByteArray} {nb : Nat} {rm : Room} {As : List Value} {Post : Option Value → mm_M → Prop} {idx n b : Nat} {rest : List Value} (hM : mm_C Y G y cb nb none rm A (.ref b :: As) σ Post) (hln : mm_ln Y own idx y) (hcd : mm_cd Y y cb nb none) (hin : Cond.instanceMethod y ∈ Y.2.2.2.1) (hy1 : y.name = "<init>") (hnm : mm_nm y n) (hn : As.length = n)
    (hstk : st = As.reverse ++ .ref b :: rest) (hw : (rest.map fun v => v.category).sum ≤ 8) (hd : decode cc pc = .ok (.invokespecial idx, 3)) (hfr : rm.frames + 1 ≤ R.frames ∧ 8 + (nb + 11) + rm.locals ≤ R.locals) (hcl : ck + rm.cells ≤ R.cells ∧ sk + rm.slots ≤ R.slots)
    (kk : ∀ v σ', Post v σ' → mm_J Y G own cc nL rt ini R A Qf (pc + 3) L (v.toList ++ rest) σ' (ck + rm.cells) (sk + rm.slots)) : mm_J Y G own cc nL rt ini R A Qf pc L st σ ck sk := by
  intro p l e s m args below meth c H locs ls X hP hS hl
  obtain ⟨hx, hb, hml, hown, hts, hr, hlk, hini, hK, hlt⟩ := id X
  have hpre : PreS s H (va_Pc (.ref b :: As) (fun U => mm_K Y G A U ∧ mm_P Y G A σ U.heap)) (.ref b :: As) := ⟨mm_blind hY _, fun U hU hW => ⟨rfl, hK.moved hY hW (fun q h1 h2 => by rw [hU]; exact hS.2.1 q h1 h2), by rw [hU]; exact hP⟩⟩
  rcases hln with hln | ⟨host, hln⟩
  · exact mm_after (va_runI (Ts := Y.2.2.2.1) ⟨hx, hb, hml, hown, hts⟩ (hM l hlt) ⟨callB_of n hts (mm_goodTs hY hcd.1) rfl rfl rfl (hts _ hcd.2) (hts _ hln) hnm hfr, hy1, hts _ hin⟩ hpre rfl hn hl.1 hstk (lv_room hw) hd hcl) X hS hl kk
  · exact mm_after (va_runIN (Ts := Y.2.2.2.1) ⟨hx, hb, hml, hown, hts⟩ (hM l hlt) ⟨va_cnB n hts (mm_goodTs hY hcd.1) rfl rfl rfl (hK.2.2.1 _ hln) (hts _ hcd.2) hnm hfr, hy1, hts _ hin⟩ hpre rfl hn hl.1 hstk (lv_room hw) hd hcl) X hS hl kk
theorem mm_objInit {idx a : Nat} (hln : Cond.methodLink own idx Lib.objectInit ∈ Y.2.2.2.1) (hin : Cond.instanceMethod Lib.objectInit ∈ Y.2.2.2.1) (hcd : Cond.code Lib.objectInit ⟨#[0xb1]⟩ 1 none ∈ Y.2.2.2.1) (hd : decode cc pc = .ok (.invokespecial idx, 3)) (hf : 1 ≤ R.frames) (hlo : (st.map fun v => v.category).sum + 12 ≤ R.locals) (kk : mm_J Y G own cc nL rt ini R A Qf (pc + 3) L st σ ck sk) : mm_J Y G own cc nL rt ini R A Qf pc L (.ref a :: st) σ ck sk := by
  intro p l e s m args below meth c H locs ls X hP hS hl
  exact W.objInit X.1 X.2.1 X.2.2.2.1 (X.2.2.2.2.1 _ hln) (X.2.2.2.2.1 _ hin) (X.2.2.2.2.1 _ hcd) rfl (hl.1.trans X.2.2.1.symm) rfl hd hf (by show 2 * 0 + _ + 12 ≤ _; omega) (kk p l e s m args below meth c H locs ls X hP hS hl)
theorem mm_gets {idx k : Nat} {C n : String} {xs : List Int32} (hz : Y.2.2.2.2.2.1[k]? = some (C, n, xs)) (hln : Cond.fieldLink own idx C n "[I" ∈ Y.2.2.2.1 ∨ ∃ host, Cond.fieldLinkNest own idx C n "[I" host ∈ Y.2.2.2.2.1) (hd : decode cc pc = .ok (.getstatic idx, 3)) (kk : mm_J Y G own cc nL rt ini R A Qf (pc + 3) L (.ref (G.2.2 k) :: st) σ ck sk) : mm_J Y G own cc nL rt ini R A Qf pc L st σ ck sk := by
  intro p l e s m args below meth c H locs ls X hP hS hl
  obtain ⟨hx, hb, hml, hown, hts, hr, hlk, hini, hK, hlt⟩ := id X
  rcases hln with hln | ⟨host, hln⟩
  · exact va_gets hx hb (hK.2.2.2.1 k C n xs hz).1 hS hown (hts _ hln) (fun _ h => h) hd (kk p l e s m args below meth c H locs ls X hP hS hl)
  · exact va_getsN hx hb (hK.2.2.2.1 k C n xs hz).1 hS hown (va_Nw.use rfl (hK.2.2.1 _ hln)) (fun _ h => h) hd (kk p l e s m args below meth c H locs ls X hP hS hl)
theorem mm_sald {k : Nat} {C n : String} {xs : List Int32} {i : Int32} (hz : Y.2.2.2.2.2.1[k]? = some (C, n, xs)) (hin : vp_in i xs.length) (hd : decode cc pc = .ok (.iaload, 1)) (kk : mm_J Y G own cc nL rt ini R A Qf (pc + 1) L (.int (xs.getD i.toNatClampNeg 0) :: st) σ ck sk) : mm_J Y G own cc nL rt ini R A Qf pc L (.int i :: .ref (G.2.2 k) :: st) σ ck sk := by
  intro p l e s m args below meth c H locs ls X hP hS hl
  obtain ⟨hx, hb, hml, hown, hts, hr, hlk, hini, hK, hlt⟩ := id X
  exact va_ti hx hb (hK.2.2.2.1 k C n xs hz).2 hS hin rfl hd (kk p l e s m args below meth c H locs ls X hP hS hl)
theorem mm_slen {k : Nat} {C n : String} {xs : List Int32} {v : Int32} (hz : Y.2.2.2.2.2.1[k]? = some (C, n, xs)) (hv : Int32.ofNat xs.length = v) (hd : decode cc pc = .ok (.arraylength, 1)) (kk : mm_J Y G own cc nL rt ini R A Qf (pc + 1) L (.int v :: st) σ ck sk) : mm_J Y G own cc nL rt ini R A Qf pc L (.ref (G.2.2 k) :: st) σ ck sk := by
  intro p l e s m args below meth c H locs ls X hP hS hl
  obtain ⟨hx, hb, hml, hown, hts, hr, hlk, hini, hK, hlt⟩ := id X
  exact va_tlen hx hb (hK.2.2.2.1 k C n xs hz).2 hS hv hd (kk p l e s m args below meth c H locs ls X hP hS hl)
theorem mm_mmax {idx : Nat} {x y : Int32} (hln : Cond.methodLink own idx Lib.Math.max.name ∈ Y.2.2.2.1) (hst : Cond.static Lib.Math.max.name ∈ Y.2.2.2.1) (hi : Cond.initialized "java/lang/Math" ∈ Y.2.2.2.1) (hcd : Cond.code Lib.Math.max.name Lib.Math.max.code 2 (some .int) ∈ Y.2.2.2.1) (hf : 1 ≤ R.frames) (hlo : (st.map fun v => v.category).sum + 13 ≤ R.locals) (hc : ck ≤ R.cells) (hs : sk ≤ R.slots) (hd : decode cc pc = .ok (.invokestatic idx, 3)) (kk : mm_J Y G own cc nL rt ini R A Qf (pc + 3) L (.int (if x < y then y else x) :: st) σ ck sk) : mm_J Y G own cc nL rt ini R A Qf pc L (.int y :: .int x :: st) σ ck sk := by
  intro p l e s m args below meth c H locs ls X hP hS hl
  obtain ⟨hx, hb, hml, hown, hts, hr, hlk, hini, hK, hlt⟩ := id X
  exact va_mmax hx hb (hml.trans hl.1.symm) hown (hts _ hln) (hts _ hst) (hts _ hi) (hts _ hcd) hf hlo hc hs hd (kk p l e s m args below meth c H locs ls X hP hS hl)
theorem mm_mmin {idx : Nat} {x y : Int32} (hln : Cond.methodLink own idx Lib.Math.min.name ∈ Y.2.2.2.1) (hst : Cond.static Lib.Math.min.name ∈ Y.2.2.2.1) (hi : Cond.initialized "java/lang/Math" ∈ Y.2.2.2.1) (hcd : Cond.code Lib.Math.min.name Lib.Math.min.code 2 (some .int) ∈ Y.2.2.2.1) (hf : 1 ≤ R.frames) (hlo : (st.map fun v => v.category).sum + 13 ≤ R.locals) (hc : ck ≤ R.cells) (hs : sk ≤ R.slots) (hd : decode cc pc = .ok (.invokestatic idx, 3)) (kk : mm_J Y G own cc nL rt ini R A Qf (pc + 3) L (.int (if y < x then y else x) :: st) σ ck sk) : mm_J Y G own cc nL rt ini R A Qf pc L (.int y :: .int x :: st) σ ck sk := by
  intro p l e s m args below meth c H locs ls X hP hS hl
  obtain ⟨hx, hb, hml, hown, hts, hr, hlk, hini, hK, hlt⟩ := id X
  exact va_mmin hx hb (hml.trans hl.1.symm) hown (hts _ hln) (hts _ hst) (hts _ hi) (hts _ hcd) hf hlo hc hs hd (kk p l e s m args below meth c H locs ls X hP hS hl)
end MMC
