section TM
variable {T : Nat → Option Nat} {σ : mm_M} {o9 n : Nat} {s : Nat → Nat} {g : Nat → Nat → Int32}
theorem rX9_links_23 (t9 : T o9 = some 9) {m x2 x3 : Int32} {sl k : Nat} {v u : Nat → Int32} {σ0 : mm_M} {k11 : Nat → Int32 → Int32 → Int32 → mm_M → Option mm_M} {Qp : mm_M → Prop} (hm : 1 ≤ m.toInt ∧ m.toInt ≤ 8) (h2 : x2.toInt = sl) (hsl : sl < 20) (h3 : x3.toInt = k) (hk : k < 6) {σ : mm_M} (c : sCI T σ) (hv : ∀ j, vl (rdA σ o9 11 j) = v j) (h : ryk o9 k m v u σ0 σ sl) (hK : ∀ s, sCI T s → (∀ j, rdA s o9 11 j = rdA σ o9 11 j) → ryk o9 (k + 1) m v u σ0 s sl → pw (k11 o9 m x2 (x3 + 1) s) Qp) : ∀ (N : Nat) (x4 x5 : Int32) (j : Nat), x5.toInt = j → j ≤ 6 → (x4 = 0 ∨ x4 = 1) → (x4 = 0 → ∃ i, i < 6 ∧ v (3 + 6 * k + i) = -1) → (x4 ≠ 0 → ∀ i, i < j → v (3 + 6 * k + i) ≠ -1) → pw (fX9_linkPacket_23 k11 N o9 m x2 x3 x4 x5 σ) Qp := by
  intro N
  induction N with
  | zero => intros; exact pw_none
  | succ N ih =>
    intro x4 x5 j hj hj6 h01 hz hnz
    unfold fX9_linkPacket_23
    have e5 := zi_p1 (x := x5) (by omega)
    have ib : (3 + 6 * x3).toInt = 3 + 6 * k := (zi_3k h3 hk).2.2.2
    refine pw_ite (fun a => pw_ite (fun b => hK σ c (fun _ => rfl) (ryk_no h hk (hz b))) (fun b => ?_)) (fun a => pw_ite (fun b => ih 0 (x5 + 1) (j + 1) (by omega) ?_ (Or.inl rfl) (fun _ => hz b) (fun h => absurd rfl h)) (fun b => pw_sh fun _ => pw_onP pX9_value fun q37 e37 => ?_))
    · rw [zi_le] at a; simp only [Int32.reduceToInt] at a
      exact rX9_links_set (K := fun s34 => k11 o9 m x2 (x3 + 1) s34) c t9 hm h2 hsl h3 hk hv (fun i hi => hnz b i (by omega)) h hK
    · rw [zi_le] at a; simp only [Int32.reduceToInt] at a; omega
    · rw [zi_le] at a; simp only [Int32.reduceToInt] at a
      obtain ⟨d, s'⟩ := q37
      have : s' = σ := congrArg Prod.snd e37
      subst this
      have hd : d = v (3 + 6 * k + j) := (congrArg Prod.fst e37).trans (by rw [show (3 + 6 * x3 + x5).toNatClampNeg = 3 + 6 * k + j by rw [zi_clamp, zi_add, ib, hj, zi_bm (by omega) (by omega)]; omega]; exact hv _)
      clear e37
      dsimp only
      refine pw_ite (fun e => ih 0 (x5 + 1) (j + 1) (by omega) (by omega) (Or.inl rfl) (fun _ => ⟨j, by omega, by rw [← hd]; exact e⟩) (fun h => absurd rfl h)) (fun e => ih 1 (x5 + 1) (j + 1) (by omega) (by omega) (Or.inr rfl) (fun h => absurd h (by decide)) (fun _ i hi => ?_))
      by_cases ei : i = j
      · subst ei; rw [← hd]; exact e
      · exact hnz b i (by omega)
theorem rX9_links_11 (t9 : T o9 = some 9) {m x2 : Int32} {sl : Nat} {v u : Nat → Int32} {σ0 : mm_M} (hm : 1 ≤ m.toInt ∧ m.toInt ≤ 8) (h2 : x2.toInt = sl) (hsl : sl < 20) : ∀ (N : Nat) (x3 : Int32) (k : Nat) (σ : mm_M), sCI T σ → (∀ j, vl (rdA σ o9 11 j) = v j) → x3.toInt = k → k ≤ 6 → ryk o9 k m v u σ0 σ sl → pw (fX9_linkPacket_11 N o9 m x2 x3 σ) (fun R => ryk o9 6 m v u σ0 R sl) := by
  intro N
  induction N with
  | zero => intros; exact pw_none
  | succ N ih =>
    intro x3 k σ c hv h3 hk h
    unfold fX9_linkPacket_11
    have e3 := zi_p1 (x := x3) (by omega)
    refine pw_ite (fun a => pw_some ?_) (fun a => ?_)
    · rw [zi_le] at a; simp only [Int32.reduceToInt] at a
      have : k = 6 := by omega
      subst this; exact h
    · rw [zi_le] at a; simp only [Int32.reduceToInt] at a
      exact rX9_links_23 t9 hm h2 hsl h3 (by omega) c hv h (fun s c' s11 h' => ih (x3 + 1) (k + 1) s c' (fun j => by rw [s11]; exact hv j) (by omega) (by omega) h') _ 1 0 0 rfl (by omega) (Or.inr rfl) (fun h => absurd h (by decide)) (fun _ i hi => absurd hi (Nat.not_lt_zero _))
theorem rX9_links (c : sCI T σ) (t9 : T o9 = some 9) {m x2 : Int32} {sl : Nat} {v u : Nat → Int32} (hm : 1 ≤ m.toInt ∧ m.toInt ≤ 8) (h2 : x2.toInt = sl) (hsl : sl < 20) (hv : ∀ j, vl (rdA σ o9 11 j) = v j) (h : ry o9 σ sl u) : pw (fX9_linkPacket o9 m x2 σ) (fun R => ry o9 R sl (if v 2 = 0 then lnk m v u else u) ∧ ∀ sl', sl' ≠ sl → sag o9 σ R sl') := by
  unfold fX9_linkPacket
  refine pw_sh fun _ => pw_onP pX9_value fun q2 e2 => ?_
  obtain ⟨d, s'⟩ := q2
  have : s' = σ := congrArg Prod.snd e2
  subst this
  have hd : d = v 2 := (congrArg Prod.fst e2).trans (hv 2)
  clear e2
  dsimp only
  rw [hd]
  refine pw_ite (fun a => ?_) (fun a => ?_)
  · rw [if_pos a]
    refine (rX9_links_11 (u := u) (σ0 := s') t9 hm h2 hsl _ 0 0 s' c hv rfl (by omega) ⟨fun i hi w hw => ?_, fun _ _ => rfl, fun _ _ => rfl, fun _ _ _ => rfl⟩).mono (fun R hR => ⟨⟨fun r hr => ?_, fun r hr cc hcc => ?_, fun i hi w hw => ?_⟩, fun sl' hn => ⟨fun r hr => hR.2.2.2 24 _ (by omega), fun j hj => hR.2.2.2 23 _ (by omega), fun k hk => hR.2.1 _ (by omega), fun k hk => hR.2.2.1 _ (by omega)⟩⟩)
    · rw [if_neg (c := i < 0) (by omega)]; exact h.2.2 i hi w hw
    · rw [hR.2.2.2 24 _ (by omega)]; unfold lnk; rw [if_neg (by omega)]; exact h.1 r hr
    · rw [hR.2.2.2 24 _ (by omega), hR.2.2.2 23 _ (by omega)]; unfold lnk
      rw [if_neg (c := 200 ≤ 1000 + (40 * r + cc) ∧ 1000 + (40 * r + cc) < 218) (by omega)]; exact h.2.1 r hr cc hcc
    · have := hR.1 i hi w hw
      rw [if_pos (c := i < 6) hi] at this
      exact this
  · rw [if_neg a]
    exact pw_some ⟨h, fun sl' _ => sag_of fun _ _ _ => rfl⟩
/-- the reference's store, with rows and links -/
def r_S9 (o9 : Nat) (s : Nat → Nat) (σ : mm_M) (n : Nat) (g : Nat → Nat → Int32) : Prop := q_S9 o9 s σ n g ∧ ∀ i, i < n → ry o9 σ (s i) (g i)
theorem r_S9.fr {K : List Nat} {σ' : mm_M} (h : r_S9 o9 s σ n g) (f : sFR T K σ σ') (c : sCI T σ) (t9 : T o9 = some 9) (hK : q_fr K = true) (hK2 : K.all (fun x => !(73 ≤ x && x ≤ 76) && !(923 ≤ x && x ≤ 926)) = true) : r_S9 o9 s σ' n g := by
  have k : ∀ x, (73 ≤ x ∧ x ≤ 76) ∨ (923 ≤ x ∧ x ≤ 926) → K.contains x = false := fun x hx => q_no fun y hy => by
    have h1 := List.all_eq_true.mp hK2 y hy
    simp only [Bool.and_eq_true, Bool.not_eq_true', Bool.and_eq_false_iff, decide_eq_false_iff_not] at h1
    omega
  refine ⟨h.1.fr f c t9 hK, fun i hi => (h.2 i hi).sag (sag_of fun j i hj => rdA_fr f c t9 (q_kr2 hj) (k _ ?_) (k _ ?_))⟩
  · show (73 ≤ 900 + j ∧ 900 + j ≤ 76) ∨ (923 ≤ 900 + j ∧ 900 + j ≤ 926)
    omega
  · have : kcode (50 + j) i = 50 + j := by unfold kcode; rw [if_neg (by omega), if_neg (by omega)]
    rw [this]; omega
theorem rX9_header_end (h : r_S9 o9 s σ n g) (c : sCI T σ) (t9 : T o9 = some 9) (hu : q_ou n g) (hc : uc σ o9 ≤ (mm_I σ o9 14).toInt) {w t : Nat → Int32} (hw : ∀ j, j < 8 → vl (rdA σ o9 11 (2 + j)) = w j) (ht : ∀ j, rdA σ o9 11 j &&& 255 = t j) (hk : ∀ j, j < 8 → ∃ k : Fin 16, w j = Int32.ofNat k.val) {N : Nat} {m x4 x5 : Int32} (hm : 1 ≤ m.toInt ∧ m.toInt ≤ 8) (hno : ∀ i, i < n → ¬ q_op g m i) (h4 : x4 = 0 ↔ w 7 &&& 1 = 0) (hx : 9 ≤ x5.toInt) : pw (fX9_header_69 (N + 1) o9 m (w 3) (w 5) x4 x5 σ) (fun R => (∀ k, rdA R o9 13 k = rdA σ o9 13 k) ∧ ∃ n' g' s', r_S9 o9 s' R n' g' ∧ ((16 * w 1 + w 0 = 255 ∧ n' = n ∧ g' = g ∧ s' = s) ∨ (16 * w 1 + w 0 ≠ 255 ∧ ∃ g2, q_bn n g s m (16 * w 1 + w 0) (fX8_subcodeOf (w 2) (w 3) (w 4) (w 5)) n' g2 s' ∧ g' = q_opx g2 (n' - 1) (q_fl (w 3) (w 5) (w 7)) t))) := by
  intro R0 eR0
  have base := pX9_header_end h.1 c t9 hu hc hw hk hm hno h4 hx R0 eR0
  obtain ⟨b13, n', gb, s', hb9, hb⟩ := base
  refine ⟨b13, ?_⟩
  -- rows and links, walked beside
  suffices hh : pw (fX9_header_69 (N + 1) o9 m (w 3) (w 5) x4 x5 σ) (fun R => (16 * w 1 + w 0 = 255 ∧ R = σ) ∨ (16 * w 1 + w 0 ≠ 255 ∧ ∃ s2 sl, (∃ n1 g1 s1 r, (∀ i, i < n1 → s1 i ≠ sl) ∧ q_bn n g s m (16 * w 1 + w 0) (fX8_subcodeOf (w 2) (w 3) (w 4) (w 5)) (n1 + 1) (q_app g1 n1 r) (q_app s1 n1 sl) ∧ (∀ i, i < n1 + 1 → ry o9 s2 (q_app s1 n1 sl i) (q_app g1 n1 r i)) ∧ q_S9 o9 (q_app s1 n1 sl) R (n1 + 1) (q_opn (q_app g1 n1 r) n1 (q_fl (w 3) (w 5) (w 7))) ∧ ry o9 R sl (hdc t (q_fl (w 3) (w 5) (w 7)) r)) ∧ ∀ sl', sl' ≠ sl → sag o9 s2 R sl')) by
    rcases hh R0 eR0 with ⟨a, e⟩ | ⟨a, s2, sl, ⟨n1, g1, s1, r, d1, d2, d3, d4, d5⟩, d6⟩
    · subst e
      exact ⟨n, g, s, h, Or.inl ⟨a, rfl, rfl, rfl⟩⟩
    · refine ⟨n1 + 1, q_opx (q_app g1 n1 r) n1 (q_fl (w 3) (w 5) (w 7)) t, q_app s1 n1 sl, ⟨?_, fun i hi => ?_⟩, Or.inr ⟨a, q_app g1 n1 r, d2, by rw [Nat.add_sub_cancel]⟩⟩
      · have hV : q_V (mm_I R0 o9 14).toInt (q_F o9 R0) (q_app s1 n1 sl) (n1 + 1) (q_opn (q_app g1 n1 r) n1 (q_fl (w 3) (w 5) (w 7))) := d4
        have eq : ∀ i f, f < 100 → q_opx (q_app g1 n1 r) n1 (q_fl (w 3) (w 5) (w 7)) t i f = q_opn (q_app g1 n1 r) n1 (q_fl (w 3) (w 5) (w 7)) i f := fun i f hf => by unfold q_opx; rw [if_neg (by omega)]
        refine ⟨hV.1, hV.2.1, fun i hi => ?_, hV.2.2.2.1, fun x x1 x2 => ?_⟩
        · rw [eq i 2 (by omega), eq i 3 (by omega), eq i 4 (by omega), eq i 5 (by omega), eq i 7 (by omega), eq i 8 (by omega)]
          exact hV.2.2.1 i hi
        · have eo : ∀ i, q_op (q_opx (q_app g1 n1 r) n1 (q_fl (w 3) (w 5) (w 7)) t) x i ↔ q_op (q_opn (q_app g1 n1 r) n1 (q_fl (w 3) (w 5) (w 7))) x i := fun i => by unfold q_op; rw [eq i 6 (by omega), eq i 2 (by omega)]
          rcases hV.2.2.2.2 x x1 x2 with ⟨i, a1, a2, a3⟩ | ⟨a1, a2⟩
          · exact Or.inl ⟨i, a1, a2, (eo i).mpr a3⟩
          · exact Or.inr ⟨a1, fun i hi h' => a2 i hi ((eo i).mp h')⟩
      · by_cases e : i = n1
        · subst e
          rw [q_appl]
          refine d5.cg fun f hf => ?_
          unfold q_opx
          rw [if_pos ⟨rfl, hf⟩, q_appl]
        · have e1 : q_app s1 n1 sl i = s1 i := if_neg e
          have d3' := d3 i hi
          rw [e1] at d3' ⊢
          refine (d3'.sag (d6 _ (d1 i (by omega)))).cg fun f hf => ?_
          unfold q_opx
          rw [if_neg (fun h => e h.1)]
          unfold q_opn
          rw [if_neg e]
  clear b13 hb9 hb eR0 gb s' n' R0
  unfold fX9_header_69
  rw [if_pos (by rw [zi_le]; exact hx)]
  have w3 : vl (rdA σ o9 11 (3 : Int32).toNatClampNeg) = w 1 := hw 1 (by omega)
  have w2 : vl (rdA σ o9 11 (2 : Int32).toNatClampNeg) = w 0 := hw 0 (by omega)
  have w4 : vl (rdA σ o9 11 (4 : Int32).toNatClampNeg) = w 2 := hw 2 (by omega)
  have w6 : vl (rdA σ o9 11 (6 : Int32).toNatClampNeg) = w 4 := hw 4 (by omega)
  refine pw_sh fun _ => pw_onP pX9_value fun q11 e11 => pw_sh fun _ => ?_
  subst e11
  refine pw_onP pX9_value fun q13 e13 => ?_
  subst e13
  rw [w3, w2]
  show pw (if 16 * w 1 + w 0 = 255 then _ else _) _
  refine pw_ite (fun a => pw_some (Or.inl ⟨a, rfl⟩)) (fun a => pw_sh fun _ => pw_onP pX9_value fun q16 e16 => pw_sh fun _ => ?_)
  subst e16
  refine pw_onP pX9_value fun q18 e18 => pw_sh fun _ => ?_
  subst e18
  rw [w4, w6]
  show pw (mm_on (fX9_pageFor o9 m (16 * w 1 + w 0) (fX9_subcodeOf (w 2) (w 3) (w 4) (w 5)) σ) _) _
  rw [v_sub (hk 3 (by omega)) (hk 5 (by omega))]
  have hsb : fX8_subcodeOf (w 2) (w 3) (w 4) (w 5) ≠ -1 := v_sub1 (hk 2 (by omega)) (hk 3 (by omega)) (hk 4 (by omega)) (hk 5 (by omega))
  generalize fX8_subcodeOf (w 2) (w 3) (w 4) (w 5) = sb at hsb ⊢
  generalize 16 * w 1 + w 0 = nu at a ⊢
  refine pw_onP (fun y e => And.intro ((sX9_pageFor c t9 ⟨by omega, hm.2⟩ hc).p y e) (pX9_pageFor h.1 c t9 hu hm hno hsb y e)) fun q20 hh => ?_
  obtain ⟨⟨c2, f2, -⟩, n1, g1, s1, sl, r, p1, p2, p3, p4, p5, p6, p7, p8, p9, p10, p11, p12, p13, p14, p15, p16⟩ := hh
  have hV : q_V (mm_I q20.2 o9 14).toInt (q_F o9 q20.2) s1 n1 g1 := p1
  have hY : ∀ i, i < n1 + 1 → ry o9 q20.2 (q_app s1 n1 sl i) (q_app g1 n1 r i) := ry_bn h.2 p14 p15 (by rw [Nat.add_sub_cancel, q_appl]; exact p16) (fun i hi => by
    rw [Nat.add_sub_cancel, q_appl, show q_app s1 n1 sl i = s1 i from if_neg (by omega)]; exact p5 i (by omega))
  have ecl : q20.1.toNatClampNeg = sl := by rw [zi_clamp]; omega
  have e14c : (mm_I q20.2 o9 14).toNatClampNeg = n1 := by rw [zi_clamp, hV.1]; omega
  obtain ⟨a15, e15, t15⟩ := ci_ref c2 t9 15 (κ' := 65) rfl
  obtain ⟨a27, e27, t27⟩ := ci_ref c2 t9 27 (κ' := 77) rfl
  obtain ⟨a22, e22, t22⟩ := ci_ref c2 t9 22 (κ' := 72) rfl
  obtain ⟨a20, e20, t20⟩ := ci_ref c2 t9 20 (κ' := 70) rfl
  refine pw_sh fun _ => pw_onS e15 (pw_ar fun _ _ => pw_ib fun _ _ => pw_let (pw_let (pw_onS e27 (pw_ar fun _ _ => pw_ib fun _ _ => pw_let (pw_onS e22 (pw_ar fun _ _ => pw_ib fun _ _ => pw_ib fun _ _ => pw_let ?_))))))
  rw [e14c, ecl]
  have c3 := ci_wI (j := n1) (v := q20.1) c2 t15 (kr_s (lo := 0) (hi := 19) rfl (by omega))
  have i14 : mm_I (mm_wI q20.2 a15 n1 q20.1) o9 14 = mm_I q20.2 o9 14 := q_w14 c2 t9 (k0 := 15) rfl e15
  have i14' : (mm_I q20.2 o9 14 + 1).toInt = n1 + 1 := by rw [zi_p1 (by rw [hV.1]; omega), hV.1]
  have c4 := ci_wI (j := 14) (v := mm_I (mm_wI q20.2 a15 n1 q20.1) o9 14 + 1) c3 t9 (kr_s (lo := 0) (hi := 20) rfl (by rw [i14]; omega))
  have c5 := ci_wI (j := m.toNatClampNeg) (v := q20.1) c4 t27 (kr_s (lo := -1) (hi := 19) rfl (by omega))
  have e22' : mm_R (mm_wI (mm_wI (mm_wI q20.2 a15 n1 q20.1) o9 14 (mm_I (mm_wI q20.2 a15 n1 q20.1) o9 14 + 1)) a27 m.toNatClampNeg q20.1) o9 22 = some a22 := e22
  have c6 := ci_wI (j := sl) (v := mm_I (mm_wI (mm_wI (mm_wI q20.2 a15 n1 q20.1) o9 14 (mm_I (mm_wI q20.2 a15 n1 q20.1) o9 14 + 1)) a27 m.toNatClampNeg q20.1) a22 sl + 1) c5 t22 (kr_n rfl)
  have rd : ∀ j i, kref 9 j = some (50 + j) → rdA (mm_wI (mm_wI (mm_wI (mm_wI q20.2 a15 n1 q20.1) o9 14 (mm_I (mm_wI q20.2 a15 n1 q20.1) o9 14 + 1)) a27 m.toNatClampNeg q20.1) a22 sl (mm_I (mm_wI (mm_wI (mm_wI q20.2 a15 n1 q20.1) o9 14 (mm_I (mm_wI q20.2 a15 n1 q20.1) o9 14 + 1)) a27 m.toNatClampNeg q20.1) a22 sl + 1)) o9 j i = if j = 22 ∧ i = sl then rdA q20.2 o9 22 sl + 1 else if j = 27 ∧ i = m.toInt.toNat then q20.1 else if j = 15 ∧ i = n1 then q20.1 else rdA q20.2 o9 j i := by
    intro j i hj
    rw [q_w c5 t9 (k0 := 22) rfl e22' hj, ← rdA_eq e22', q_w c4 t9 (k0 := 27) rfl e27 (k := 22) rfl, if_neg (c := (22 = 27 ∧ sl = m.toNatClampNeg)) (fun h => absurd h.1 (by decide)), rdA_k c3 t9 (κ' := 72) rfl t9 (by decide), q_w c2 t9 (k0 := 15) rfl e15 (k := 22) rfl, if_neg (c := (22 = 15 ∧ sl = n1)) (fun h => absurd h.1 (by decide))]
    rw [q_w c4 t9 (k0 := 27) rfl e27 hj, rdA_k c3 t9 hj t9 (by omega), q_w c2 t9 (k0 := 15) rfl e15 hj, zi_clamp]
  have i14b : mm_I (mm_wI (mm_wI (mm_wI (mm_wI q20.2 a15 n1 q20.1) o9 14 (mm_I (mm_wI q20.2 a15 n1 q20.1) o9 14 + 1)) a27 m.toNatClampNeg q20.1) a22 sl (mm_I (mm_wI (mm_wI (mm_wI q20.2 a15 n1 q20.1) o9 14 (mm_I (mm_wI q20.2 a15 n1 q20.1) o9 14 + 1)) a27 m.toNatClampNeg q20.1) a22 sl + 1)) o9 14 = mm_I q20.2 o9 14 + 1 := by
    rw [q_w14 c5 t9 (k0 := 22) rfl e22', q_w14 c4 t9 (k0 := 27) rfl e27, show mm_I (mm_wI (mm_wI q20.2 a15 n1 q20.1) o9 14 (mm_I (mm_wI q20.2 a15 n1 q20.1) o9 14 + 1)) o9 14 = mm_I (mm_wI q20.2 a15 n1 q20.1) o9 14 + 1 from mm_up2_self, i14]
  have e20' : mm_R (mm_wI (mm_wI (mm_wI (mm_wI q20.2 a15 n1 q20.1) o9 14 (mm_I (mm_wI q20.2 a15 n1 q20.1) o9 14 + 1)) a27 m.toNatClampNeg q20.1) a22 sl (mm_I (mm_wI (mm_wI (mm_wI q20.2 a15 n1 q20.1) o9 14 (mm_I (mm_wI q20.2 a15 n1 q20.1) o9 14 + 1)) a27 m.toNatClampNeg q20.1) a22 sl + 1)) o9 20 = some a20 := e20
  rw [e20']
  generalize mm_wI (mm_wI (mm_wI (mm_wI q20.2 a15 n1 q20.1) o9 14 (mm_I (mm_wI q20.2 a15 n1 q20.1) o9 14 + 1)) a27 m.toNatClampNeg q20.1) a22 sl (mm_I (mm_wI (mm_wI (mm_wI q20.2 a15 n1 q20.1) o9 14 (mm_I (mm_wI q20.2 a15 n1 q20.1) o9 14 + 1)) a27 m.toNatClampNeg q20.1) a22 sl + 1) = s35 at c6 rd i14b e20' ⊢
  have sg35 : ∀ sl', sag o9 q20.2 s35 sl' := fun sl' => sag_of fun j i hj => by rw [rd j i (q_kr2 hj), if_neg (by omega), if_neg (by omega), if_neg (by omega)]
  have ht35 : ∀ j, rdA s35 o9 11 j &&& 255 = t j := fun j => by
    rw [rd 11 j rfl, if_neg (fun h => absurd h.1 (by decide)), if_neg (fun h => absurd h.1 (by decide)), if_neg (fun h => absurd h.1 (by decide)), rdA_fr f2 c t9 (κ' := 61) rfl rfl rfl]; exact ht j
  have yl : ry o9 s35 sl r := by
    have := hY n1 (by omega)
    rw [q_appl, q_appl] at this
    exact this.sag (sg35 sl)
  obtain ⟨k3, e3⟩ := hk 3 (by omega)
  obtain ⟨k5, e5⟩ := hk 5 (by omega)
  have hl8 : w 3 < 8 ↔ q_fl (w 3) (w 5) (w 7) &&& 1 = 0 := by rw [q_fl_1, e3]; exact v_lt8 k3
  have ecd : (if w 3 < 8 then r else er r) = (if q_fl (w 3) (w 5) (w 7) &&& 1 = 0 then r else er r) := by
    by_cases z : w 3 < 8
    · rw [if_pos z, if_pos (hl8.mp z)]
    · rw [if_neg z, if_neg (fun h => z (hl8.mpr h))]
  have fin : ∀ y0 : Int32, (((y0 + (if ((w 5 / 4) - (w 5 / 4) / 2 * 2) = 1 then 2 else 0)) + (if w 5 < 8 then 0 else 4)) + (if x4 = 0 then 0 else 8)) = q_fl (w 3) (w 5) (w 7) → pw (fX9_header_206 o9 m (w 3) (w 5) x4 nu q20.1 y0 q20.1 (some a20) s35) (fun R => (nu = 255 ∧ R = σ) ∨ (nu ≠ 255 ∧ ∃ s2 sl, (∃ n1 g1 s1 r, (∀ i, i < n1 → s1 i ≠ sl) ∧ q_bn n g s m nu sb (n1 + 1) (q_app g1 n1 r) (q_app s1 n1 sl) ∧ (∀ i, i < n1 + 1 → ry o9 s2 (q_app s1 n1 sl i) (q_app g1 n1 r i)) ∧ q_S9 o9 (q_app s1 n1 sl) R (n1 + 1) (q_opn (q_app g1 n1 r) n1 (q_fl (w 3) (w 5) (w 7))) ∧ ry o9 R sl (hdc t (q_fl (w 3) (w 5) (w 7)) r)) ∧ ∀ sl', sl' ≠ sl → sag o9 s2 R sl')) := by
    intro y0 hfl R eR
    have fR := pX9_header_206 c6 t9 e20' (by omega) R eR
    have yR := rX9_206 (t := t) c6 t9 e20' p3 p4 ht35 yl R eR
    rw [hfl, ecl] at fR
    have c7 := ci_wI (j := sl) (v := q_fl (w 3) (w 5) (w 7)) c6 t20 (kr_n rfl)
    obtain ⟨z1, z2⟩ := q_view fR c7 t9 rfl
    have rdR : ∀ j i, (15 ≤ j ∧ j ≤ 22) ∨ j = 27 → rdA R o9 j i = if j = 20 ∧ i = sl then q_fl (w 3) (w 5) (w 7) else if j = 22 ∧ i = sl then rdA q20.2 o9 22 sl + 1 else if j = 27 ∧ i = m.toInt.toNat then q20.1 else if j = 15 ∧ i = n1 then q20.1 else rdA q20.2 o9 j i := fun j i hj => by
      rw [z2 j i hj, q_w c6 t9 (k0 := 20) rfl e20' (q_kr hj), rd j i (q_kr hj)]
    have i14R : (mm_I R o9 14).toInt = (mm_I q20.2 o9 14).toInt + 1 := by
      rw [z1, q_w14 c6 t9 (k0 := 20) rfl e20', i14b, i14', hV.1]
    refine Or.inr ⟨a, q20.2, sl, ⟨n1, g1, s1, r, p5, p14, hY, ?_, ?_⟩, fun sl' hn => sag_t (sg35 sl') (yR.2 sl' hn)⟩
    · unfold q_S9
      rw [i14R]
      have no : ∀ (j i : Nat) (x y : Nat), j ≠ x → ¬ (j = x ∧ i = y) := fun j i x y h h' => h h'.1
      refine q_V.add (F := q_F o9 q20.2) (v := q20.1) hV p2 hm.1 p4 p3 p5 p6 p7 (fun i => ?_) ?_ ?_ ?_ ?_ ?_ ?_ ?_ (fun k i hk' hi => ?_) (fun i => ?_)
      · show rdA R o9 15 i = if i = n1 then q20.1 else rdA q20.2 o9 15 i
        rw [rdR 15 i (by omega), if_neg (no _ _ _ _ (by decide)), if_neg (no _ _ _ _ (by decide)), if_neg (no _ _ _ _ (by decide))]
        by_cases e : i = n1
        · rw [if_pos ⟨rfl, e⟩, if_pos e]
        · rw [if_neg (fun h => e h.2), if_neg e]
      · show rdA R o9 16 sl ≠ 0
        rw [rdR 16 sl (by omega), if_neg (no _ _ _ _ (by decide)), if_neg (no _ _ _ _ (by decide)), if_neg (no _ _ _ _ (by decide)), if_neg (no _ _ _ _ (by decide))]; exact p8
      · show rdA R o9 17 sl = m
        rw [rdR 17 sl (by omega), if_neg (no _ _ _ _ (by decide)), if_neg (no _ _ _ _ (by decide)), if_neg (no _ _ _ _ (by decide)), if_neg (no _ _ _ _ (by decide))]; exact p9
      · show rdA R o9 18 sl = r 3
        rw [rdR 18 sl (by omega), if_neg (no _ _ _ _ (by decide)), if_neg (no _ _ _ _ (by decide)), if_neg (no _ _ _ _ (by decide)), if_neg (no _ _ _ _ (by decide))]; exact p10
      · show rdA R o9 19 sl = r 4
        rw [rdR 19 sl (by omega), if_neg (no _ _ _ _ (by decide)), if_neg (no _ _ _ _ (by decide)), if_neg (no _ _ _ _ (by decide)), if_neg (no _ _ _ _ (by decide))]; exact p11
      · show rdA R o9 20 sl = _
        rw [rdR 20 sl (by omega), if_pos ⟨rfl, rfl⟩]
      · show rdA R o9 21 sl = r 7
        rw [rdR 21 sl (by omega), if_neg (no _ _ _ _ (by decide)), if_neg (no _ _ _ _ (by decide)), if_neg (no _ _ _ _ (by decide)), if_neg (no _ _ _ _ (by decide))]; exact p12
      · show rdA R o9 22 sl = r 8 + 1
        rw [rdR 22 sl (by omega), if_neg (no _ _ _ _ (by decide)), if_pos ⟨rfl, rfl⟩, p13]
      · show rdA R o9 k i = rdA q20.2 o9 k i
        rw [rdR k i (by omega), if_neg (fun h => hi h.2), if_neg (fun h => hi h.2), if_neg (no _ _ _ _ (by omega)), if_neg (no _ _ _ _ (by omega))]
      · show rdA R o9 27 i = if i = m.toInt.toNat then q20.1 else rdA q20.2 o9 27 i
        rw [rdR 27 i (by omega), if_neg (no _ _ _ _ (by decide)), if_neg (no _ _ _ _ (by decide))]
        by_cases e : i = m.toInt.toNat
        · rw [if_pos ⟨rfl, e⟩, if_pos e]
        · rw [if_neg (fun h => e h.2), if_neg (no _ _ _ _ (by decide)), if_neg e]
    · have := yR.1
      rw [ecd] at this
      exact this
  have hfl : (((if w 3 < 8 then (0 : Int32) else 1) + (if ((w 5 / 4) - (w 5 / 4) / 2 * 2) = 1 then 2 else 0)) + (if w 5 < 8 then 0 else 4)) + (if x4 = 0 then 0 else 8) = q_fl (w 3) (w 5) (w 7) := by
    unfold q_fl
    rw [e3, e5]
    simp only [v_lt8, v_b4, h4, ite_not]
  refine pw_ite (fun b => fin 0 ?_) (fun b => fin 1 ?_)
  · rw [← hfl, if_pos (show w 3 < 8 from b)]
  · rw [← hfl, if_neg (show ¬ w 3 < 8 from b)]
end TM
section TN
variable {T : Nat → Option Nat} {σ : mm_M} {o9 n : Nat} {s : Nat → Nat} {g : Nat → Nat → Int32}
theorem rX9_close (h : r_S9 o9 s σ n g) (c : sCI T σ) (t9 : T o9 = some 9) (hu : q_ou n g) {m : Int32} (hm : 1 ≤ m.toInt ∧ m.toInt ≤ 8) : pw (fX9_close o9 m σ) (fun R => r_S9 o9 s R n (q_cl g m)) := by
  intro R e
  obtain ⟨-, f, -⟩ := (sX9_close c t9 ⟨by omega, hm.2⟩).p R e
  refine ⟨pX9_close h.1 c t9 hu hm R e, fun i hi => ((h.2 i hi).sag (sag_of fun j i hj => ?_)).cg fun f hf => (q_cl_f (by omega) (by omega)).symm⟩
  have : j = 23 ∨ j = 24 ∨ j = 25 ∨ j = 26 := by omega
  rcases this with rfl | rfl | rfl | rfl
  · exact rdA_fr f c t9 (κ' := 73) rfl rfl rfl
  · exact rdA_fr f c t9 (κ' := 74) rfl rfl rfl
  · exact rdA_fr f c t9 (κ' := 75) rfl rfl rfl
  · exact rdA_fr f c t9 (κ' := 76) rfl rfl rfl
theorem rX9_header_69 (hu : q_ou n g) (t9 : T o9 = some 9) {w t : Nat → Int32} (hk : ∀ j, j < 8 → ∃ k : Fin 16, w j = Int32.ofNat k.val) {m x4 : Int32} {b : Bool} (hm : 1 ≤ m.toInt ∧ m.toInt ≤ 8) (hmag : ∀ i, i < n → 1 ≤ (g i 2).toInt ∧ (g i 2).toInt ≤ 8) (hb : x4 = 0 ↔ b = false) (h4 : x4 = 0 ↔ w 7 &&& 1 = 0) : ∀ (u : Nat) (x5 : Int32) (σ : mm_M), sCI T σ → r_S9 o9 s σ n (q_clx g b m x5.toInt) → uc σ o9 ≤ (mm_I σ o9 14).toInt → (∀ j, j < 8 → vl (rdA σ o9 11 (2 + j)) = w j) → (∀ j, rdA σ o9 11 j &&& 255 = t j) → 1 ≤ x5.toInt → x5.toInt ≤ 9 → pw (fX9_header_69 u o9 m (w 3) (w 5) x4 x5 σ) (fun R => (∀ k, rdA R o9 13 k = rdA σ o9 13 k) ∧ ∃ n' g' s', r_S9 o9 s' R n' g' ∧ q_hdr2 n g s b m w t n' g' s') := by
  intro u
  induction u with
  | zero => intros; exact pw_none
  | succ u ih =>
    intro x5 σ c h hc hw ht h1 h9
    by_cases h8 : 9 ≤ x5.toInt
    · have e9 : x5.toInt = 9 := by omega
      rw [e9] at h
      refine (rX9_header_end h c t9 (hu.clx _ _ _) hc hw ht hk hm (fun i hi ho => ?_) h4 h8).mono (fun R hR => hR)
      have h6 := q_clx6.mp ho.1
      have h2 := ho.2
      rw [q_clx2] at h2
      exact h6.2 ⟨(hmag i hi).1, by have := (hmag i hi).2; omega, Or.inr h2⟩
    · have ex := zi_p1 (x := x5) (by omega)
      have close : b = true ∨ x5 = m → pw (fX9_header_87 (fX9_header_69 u) o9 m (w 3) (w 5) x4 x5 σ) (fun R => (∀ k, rdA R o9 13 k = rdA σ o9 13 k) ∧ ∃ n' g' s', r_S9 o9 s' R n' g' ∧ q_hdr2 n g s b m w t n' g' s') := by
        intro hbm
        unfold fX9_header_87
        refine pw_sh fun _ => pw_onP (fun y e => And.intro ((sX9_close c t9 ⟨by omega, by omega⟩).p y e) (rX9_close h c t9 (hu.clx _ _ _) ⟨h1, by omega⟩ y e)) fun s2 hh => ?_
        obtain ⟨⟨c2, f2, -⟩, h2⟩ := hh
        refine (ih (x5 + 1) s2 c2 (by rw [ex, q_clx_yes h1 hbm]; exact h2) ?_ (fun j hj => by rw [rdA_fr f2 c t9 (κ' := 61) rfl rfl rfl]; exact hw j hj) (fun j => by rw [rdA_fr f2 c t9 (κ' := 61) rfl rfl rfl]; exact ht j) (by omega) (by omega)).mono (fun R hR => ⟨fun k => (hR.1 k).trans (rdA_fr f2 c t9 (κ' := 63) rfl rfl rfl), hR.2⟩)
        rw [uc_fr f2 c t9 rfl rfl, (f2.2.2 o9 9 t9 14 rfl).1]; exact hc
      unfold fX9_header_69
      rw [if_neg (by rw [zi_le]; exact h8)]
      refine pw_ite (fun a => pw_ite (fun d => close (Or.inr d)) (fun d => ?_)) (fun a => close (Or.inl ?_))
      · exact ih (x5 + 1) σ c (by rw [ex, q_clx_no (hb.mp a) d]; exact h) hc hw ht (by omega) (by omega)
      · cases b with
        | true => rfl
        | false => exact absurd (hb.mpr rfl) a
theorem rX9_header_2 (h : r_S9 o9 s σ n g) (c : sCI T σ) (t9 : T o9 = some 9) (hu : q_ou n g) (hc : uc σ o9 ≤ (mm_I σ o9 14).toInt) {m : Int32} (hm : 1 ≤ m.toInt ∧ m.toInt ≤ 8) (hmag : ∀ i, i < n → 1 ≤ (g i 2).toInt ∧ (g i 2).toInt ≤ 8) : ∀ (u : Nat) (x : Int32) (k : Nat), x.toInt = 2 + k → k ≤ 8 → (∀ j, j < k → vl (rdA σ o9 11 (2 + j)) ≠ -1) → pw (fX9_header_2 u o9 m x σ) (fun R => ∃ n' g' s', r_S9 o9 s' R n' g' ∧ q_head2 n g s (fun k => rdA σ o9 13 k) m (fun j => vl (rdA σ o9 11 (2 + j))) (fun j => rdA σ o9 11 j &&& 255) n' g' s' (fun k => rdA R o9 13 k)) := by
  intro u
  induction u with
  | zero => intros; exact pw_none
  | succ u ih =>
    intro x k hx hk8 hv
    have ex := zi_p1 (x := x) (by omega)
    have ecl : x.toNatClampNeg = 2 + k := by rw [zi_clamp]; omega
    unfold fX9_header_2
    refine pw_ite (fun a => ?_) (fun a => pw_sh fun _ => pw_onP pX9_value fun q60 e60 => ?_)
    · rw [zi_le] at a
      simp only [Int32.reduceToInt] at a
      have hk : k = 8 := by omega
      subst hk
      have hf : ∀ j, j < 8 → ∃ k : Fin 16, vl (rdA σ o9 11 (2 + j)) = Int32.ofNat k.val := fun j hj => (vl_rg _).resolve_left (hv j hj)
      refine pw_sh fun _ => pw_onP pX9_value fun q3 e3 => pw_sh fun _ => ?_
      subst e3
      refine pw_onP pX9_value fun q5 e5 => pw_sh fun _ => ?_
      subst e5
      refine pw_onP pX9_value fun q7 e7 => ?_
      subst e7
      have fin : ∀ x4 : Int32, (x4 = 0 ↔ ¬ vl (rdA σ o9 11 (2 + 7)) &&& 1 = 1) → pw (fX9_header_69 mm_fuel o9 m (vl (rdA σ o9 11 (2 + 3))) (vl (rdA σ o9 11 (2 + 5))) x4 1 σ) (fun R => ∃ n' g' s', r_S9 o9 s' R n' g' ∧ q_head2 n g s (fun k => rdA σ o9 13 k) m (fun j => vl (rdA σ o9 11 (2 + j))) (fun j => rdA σ o9 11 j &&& 255) n' g' s' (fun k => rdA R o9 13 k)) := by
        intro x4 hx4
        obtain ⟨k7, e7⟩ := hf 7 (by omega)
        refine (rX9_header_69 (w := fun j => vl (rdA σ o9 11 (2 + j))) (t := fun j => rdA σ o9 11 j &&& 255) (b := decide (vl (rdA σ o9 11 (2 + 7)) &&& 1 = 1)) hu t9 hf hm hmag (hx4.trans decide_eq_false_iff_not.symm) (hx4.trans ?_) _ 1 σ c (by rw [show (1 : Int32).toInt = 1 from rfl, q_clx_1]; exact h) hc (fun j hj => rfl) (fun j => rfl) (by decide) (by decide)).mono (fun R hR => ?_)
        · show ¬ vl (rdA σ o9 11 (2 + 7)) &&& 1 = 1 ↔ vl (rdA σ o9 11 (2 + 7)) &&& 1 = 0
          rw [e7, v_b10]; exact Decidable.not_not
        · obtain ⟨r0, n', g', s', r1, r2⟩ := hR
          exact ⟨n', g', s', r1, Or.inr ⟨hv, r2, funext r0⟩⟩
      obtain ⟨k7, e7⟩ := hf 7 (by omega)
      refine pw_ite (fun b => fin 1 ?_) (fun b => fin 0 ?_)
      · have b' : (vl (rdA σ o9 11 (2 + 7)) - vl (rdA σ o9 11 (2 + 7)) / 2 * 2) = 1 := b
        rw [e7, v_b1, ← e7] at b'
        exact ⟨fun h => absurd h (by decide), fun h => absurd b' h⟩
      · have b' : ¬ (vl (rdA σ o9 11 (2 + 7)) - vl (rdA σ o9 11 (2 + 7)) / 2 * 2) = 1 := b
        rw [e7, v_b1, ← e7] at b'
        exact ⟨fun _ => b', fun _ => rfl⟩
    · rw [zi_le] at a
      simp only [Int32.reduceToInt] at a
      subst e60
      rw [ecl]
      show pw (if vl (rdA σ o9 11 (2 + k)) = -1 then _ else _) _
      refine pw_ite (fun b => pw_sh fun _ => ?_) (fun b => ?_)
      · obtain ⟨na, ena, tna⟩ := ci_ref c t9 13 (κ' := 63) rfl
        refine pw_onS ena (pw_ar fun _ _ => pw_ib fun _ _ => pw_ib fun _ _ => pw_let (pw_some ⟨n, g, s, ?_, Or.inl ⟨⟨k, by omega, b⟩, rfl, rfl, rfl, funext fun i => rdA_inc (j := 1) ena i⟩⟩))
        exact r_S9.fr (T := T) (K := [63]) h (fr_wI fr_refl tna rfl) c t9 rfl rfl
      · refine ih (x + 1) (k + 1) (by omega) (by omega) (fun j hj => ?_)
        by_cases e : j = k
        · subst e; exact b
        · exact hv j (by omega)
theorem rX9_header (h : r_S9 o9 s σ n g) (c : sCI T σ) (t9 : T o9 = some 9) (hu : q_ou n g) (hc : uc σ o9 ≤ (mm_I σ o9 14).toInt) {m : Int32} (hm : 1 ≤ m.toInt ∧ m.toInt ≤ 8) (hmag : ∀ i, i < n → 1 ≤ (g i 2).toInt ∧ (g i 2).toInt ≤ 8) : pw (fX9_header o9 m σ) (fun R => ∃ n' g' s', r_S9 o9 s' R n' g' ∧ q_head2 n g s (fun k => rdA σ o9 13 k) m (fun j => vl (rdA σ o9 11 (2 + j))) (fun j => rdA σ o9 11 j &&& 255) n' g' s' (fun k => rdA R o9 13 k)) :=
  rX9_header_2 h c t9 hu hc hm hmag _ 2 0 rfl (Nat.zero_le _) (fun j hj => absurd hj (Nat.not_lt_zero _))
theorem rX9_packet_104 (h : r_S9 o9 s σ n g) (c : sCI T σ) (t9 : T o9 = some 9) {x1 x2 m r : Int32} (hm : 1 ≤ m.toInt ∧ m.toInt ≤ 8) (hr0 : r ≠ 0) (hr : 0 ≤ r.toInt ∧ (r ≤ 24 ∨ r = 27)) {w : Nat → Int32} : pw (fX9_packet_104 o9 x1 x2 m r σ) (fun R => ∃ n' g' s', r_S9 o9 s' R.2 n' g' ∧ q_row2 n g s (fun k => rdA σ o9 13 k) m r w (fun j => rdA σ o9 11 j &&& 255) n' g' s' (fun k => rdA R.2 o9 13 k)) := by
  unfold fX9_packet_104
  obtain ⟨oa, eo, to⟩ := ci_ref c t9 27 (κ' := 77) rfl
  have er : rdA σ o9 27 m.toInt.toNat = mm_I σ oa m.toNatClampNeg := rdA_eq eo
  have hV : q_V (mm_I σ o9 14).toInt (q_F o9 σ) s n g := h.1
  refine pw_sh fun _ => pw_onS eo (pw_ar fun _ _ => pw_ib fun _ _ => pw_ite (fun a => ?_) (fun a => ?_))
  · have hno : ∀ i, i < n → ¬ q_op g m i := by
      rcases hV.2.2.2.2 m hm.1 hm.2 with ⟨i, a1, a2, a3⟩ | ⟨a1, a2⟩
      · exfalso
        have a2' : (rdA σ o9 27 m.toInt.toNat).toInt = s i := a2
        rw [er, a] at a2'
        have : (-1 : Int32).toInt = -1 := rfl
        omega
      · exact a2
    obtain ⟨na, ena, tna⟩ := ci_ref c t9 13 (κ' := 63) rfl
    refine pw_onS ena (pw_ar fun _ _ => pw_ib fun _ _ => pw_ib fun _ _ => pw_let (pw_some ⟨n, g, s, ?_, Or.inr (Or.inl ⟨hr0, hr.2, hno, rfl, rfl, rfl, funext fun i => rdA_inc (j := 2) ena i⟩)⟩))
    exact r_S9.fr (T := T) (K := [63]) h (fr_wI fr_refl tna rfl) c t9 rfl rfl
  · obtain ⟨j, hj, a2, a3⟩ : ∃ i, i < n ∧ (rdA σ o9 27 m.toInt.toNat).toInt = s i ∧ q_op g m i := by
      rcases hV.2.2.2.2 m hm.1 hm.2 with h' | ⟨a1, -⟩
      · exact h'
      · have a1' : rdA σ o9 27 m.toInt.toNat = -1 := a1
        rw [er] at a1'
        exact absurd a1' a
    rw [er] at a2
    have hs20 := (hV.2.2.1 j hj).1
    have hsl : 0 ≤ (mm_I σ oa m.toNatClampNeg).toInt ∧ (mm_I σ oa m.toNatClampNeg).toInt ≤ 19 := by omega
    have inj : ∀ i, i < n → i ≠ j → s i ≠ s j := fun i hi hij e => hij (hV.2.2.2.1 i j hi hj e)
    -- page j gets its new rows, all else stays
    have fin : ∀ {R : mm_M} {u : Nat → Int32}, q_S9 o9 s R n g → (∀ f, f < 100 → u f = g j f) → ry o9 R (s j) u → (∀ sl', sl' ≠ s j → sag o9 σ R sl') → r_S9 o9 s R n (q_app g j u) := by
      intro R u hq hu hy hs
      have eq : ∀ i f, f < 100 → q_app g j u i f = g i f := fun i f hf => by
        unfold q_app
        by_cases e : i = j
        · rw [if_pos e, e]; exact hu f hf
        · rw [if_neg e]
      have hV' : q_V (mm_I R o9 14).toInt (q_F o9 R) s n g := hq
      refine ⟨⟨hV'.1, hV'.2.1, fun i hi => ?_, hV'.2.2.2.1, fun x x1 x2 => ?_⟩, fun i hi => ?_⟩
      · rw [eq i 2 (by omega), eq i 3 (by omega), eq i 4 (by omega), eq i 5 (by omega), eq i 7 (by omega), eq i 8 (by omega)]
        exact hV'.2.2.1 i hi
      · have eo : ∀ i, q_op (q_app g j u) x i ↔ q_op g x i := fun i => by unfold q_op; rw [eq i 6 (by omega), eq i 2 (by omega)]
        rcases hV'.2.2.2.2 x x1 x2 with ⟨i, a1, a2, a3⟩ | ⟨a1, a2⟩
        · exact Or.inl ⟨i, a1, a2, (eo i).mpr a3⟩
        · exact Or.inr ⟨a1, fun i hi h' => a2 i hi ((eo i).mp h')⟩
      · unfold q_app
        by_cases e : i = j
        · rw [if_pos e, e]; exact hy
        · rw [if_neg e]; exact (h.2 i hi).sag (hs _ (inj i hi e))
    refine pw_ite (fun d => pw_onP (fun y e => And.intro ((sX9_linkPacket (p1 := m) c t9 hsl).p y e) (rX9_links (v := fun i => vl (rdA σ o9 11 i &&& 255)) c t9 hm a2 hs20 (fun i => (vl_255 _).symm) (h.2 j hj) y e)) fun s2 hh => pw_some ?_) (fun d => ?_)
    · obtain ⟨⟨c2, f2, -⟩, y1, y2⟩ := hh
      refine ⟨n, q_rwx g j m r (fun j => rdA σ o9 11 j &&& 255), s, ?_, Or.inr (Or.inr (Or.inr ⟨hr0, hr.2, j, hj, a3, rfl, rfl, rfl, funext fun k => rdA_fr f2 c t9 (κ' := 63) rfl rfl rfl⟩))⟩
      unfold q_rwx
      rw [if_pos d]
      refine fin (h.1.fr f2 c t9 rfl) (fun f hf => ?_) y1 y2
      split
      · unfold lnk; rw [if_neg (by omega)]
      · rfl
    · have hr24 : r.toInt ≤ 24 := by have := hr.2.resolve_right d; rw [zi_le] at this; exact this
      refine pw_onP (fun y e => And.intro ((sX9_text (p2 := r) (p3 := 2) (p4 := 0) (p5 := 40) c t9 hsl ⟨hr.1, hr24⟩ (by decide) (by decide)).p y e) (lX9_text (r := r.toInt.toNat) (fr := 2) (col := 0) (n := 40) (t := fun j => rdA σ o9 11 j &&& 255) c t9 a2 hs20 (by omega) (by omega) rfl rfl rfl (by omega) (fun _ => rfl) y e)) fun s2 hh => pw_some ?_
      obtain ⟨⟨c2, f2, -⟩, v1, v2, v3⟩ := hh
      refine ⟨n, q_rwx g j m r (fun j => rdA σ o9 11 j &&& 255), s, ?_, Or.inr (Or.inr (Or.inr ⟨hr0, hr.2, j, hj, a3, rfl, rfl, rfl, funext fun k => rdA_fr f2 c t9 (κ' := 63) rfl rfl rfl⟩))⟩
      unfold q_rwx
      rw [if_neg d]
      generalize hrr : r.toInt.toNat = rr at v1 v2
      have hr25 : rr < 25 := by omega
      refine fin (h.1.fr f2 c t9 rfl) (fun f hf => ?_) (ry_text hr25 (h.2 j hj) v1 v2 v3) (fun sl' hn => sag_text (g := fun _ => 0) (r := rr) (col := 0) (n := 40) hn hr25 (by omega) (fun i hi => by rw [v1 i, if_neg hi]) v2 v3)
      unfold fil
      rw [if_neg (by omega), if_neg (by omega)]
theorem rX9_pkt (h : r_S9 o9 s σ n g) (c : sCI T σ) (t9 : T o9 = some 9) (hu : q_ou n g) (hc : uc σ o9 ≤ (mm_I σ o9 14).toInt) (hmag : ∀ i, i < n → 1 ≤ (g i 2).toInt ∧ (g i 2).toInt ≤ 8) (hl : 42 ≤ (mm_I σ o9 12).toInt) {v0 v1 : Int32} (hv0 : vl (rdA σ o9 11 0) = v0) (hv1 : vl (rdA σ o9 11 1) = v1) : pw (fX9_packet o9 σ) (fun R => ∃ n' g' s', r_S9 o9 s' R.2 n' g' ∧ q_pkt2 n g s (fun k => rdA σ o9 13 k) v0 v1 (fun j => vl (rdA σ o9 11 (2 + j))) (fun j => rdA σ o9 11 j &&& 255) n' g' s' (fun k => rdA R.2 o9 13 k)) := by
  unfold fX9_packet
  refine pw_sh fun _ => pw_ite (fun h => ?_) (fun _ => ?_)
  · exfalso
    rw [zi_lt] at h
    simp only [Int32.reduceToInt] at h
    omega
  · unfold fX9_packet_15
    refine pw_sh fun _ => pw_onP (sX9_goes (p1 := 1) c t9 (by decide)).p fun q4 ⟨c4, f4, r4⟩ => ?_
    rw [if_neg (by rw [r4]; decide)]
    refine pw_sh fun _ => pw_let ?_
    have f5 : sFR T [900, 912] σ (mm_wI q4.2 o9 12 0) := fr_wI (fr_trans fr_refl f4 rfl) t9 rfl
    have c5 := ci_wI (j := 12) (v := 0) c4 t9 (kr_s (lo := 0) (hi := 60) rfl (by decide))
    have h5 : r_S9 o9 s (mm_wI q4.2 o9 12 0) n g := h.fr f5 c t9 rfl rfl
    have k11 : ∀ j, rdA (mm_wI q4.2 o9 12 0) o9 11 j = rdA σ o9 11 j := fun j => rdA_fr f5 c t9 (κ' := 61) rfl rfl rfl
    have k13 : ∀ j, rdA (mm_wI q4.2 o9 12 0) o9 13 j = rdA σ o9 13 j := fun j => rdA_fr f5 c t9 (κ' := 63) rfl rfl rfl
    have hc5 : uc (mm_wI q4.2 o9 12 0) o9 ≤ (mm_I (mm_wI q4.2 o9 12 0) o9 14).toInt := by rw [uc_fr f5 c t9 rfl rfl, (f5.2.2 o9 9 t9 14 rfl).1]; exact hc
    generalize mm_wI q4.2 o9 12 0 = s5 at f5 c5 h5 k11 k13 hc5 ⊢
    refine pw_onP pX9_value fun q8 e8 => pw_sh fun _ => ?_
    obtain ⟨z0, s8⟩ := q8
    have es8 : s8 = s5 := congrArg Prod.snd e8
    have ez0 : z0 = v0 := (congrArg Prod.fst e8).trans ((congrArg vl (k11 0)).trans hv0)
    subst es8 ez0
    refine pw_onP pX9_value fun q10 e10 => ?_
    obtain ⟨z1, s10⟩ := q10
    have es10 : s10 = s8 := congrArg Prod.snd e10
    have ez1 : z1 = v1 := (congrArg Prod.fst e10).trans ((congrArg vl (k11 1)).trans hv1)
    subst es10 ez1
    clear e8 e10
    dsimp only
    have bad : (z0 = -1 ∨ z1 = -1) → ∀ x1 x2 : Int32, pw (fX9_packet_50 o9 x1 x2 s10) (fun R => ∃ n' g' s', r_S9 o9 s' R.2 n' g' ∧ q_pkt2 n g s (fun k => rdA σ o9 13 k) z0 z1 (fun j => vl (rdA σ o9 11 (2 + j))) (fun j => rdA σ o9 11 j &&& 255) n' g' s' (fun k => rdA R.2 o9 13 k)) := by
      intro hbad x1 x2
      unfold fX9_packet_50
      obtain ⟨na, ena, tna⟩ := ci_ref c5 t9 13 (κ' := 63) rfl
      refine pw_sh fun _ => pw_onS ena (pw_ar fun _ _ => pw_ib fun _ _ => pw_ib fun _ _ => pw_let (pw_some ⟨n, g, s, ?_, Or.inl ⟨hbad, rfl, rfl, rfl, ?_⟩⟩))
      · exact r_S9.fr (T := T) (K := [63]) h5 (fr_wI fr_refl tna rfl) c5 t9 rfl rfl
      · funext i
        refine Eq.trans (rdA_inc (j := 0) ena i) ?_
        simp only [q_inc, k13]
    refine pw_ite (fun a => bad (Or.inl a) _ _) (fun a => pw_ite (fun b => bad (Or.inr b) _ _) (fun b => ?_))
    have hnb : ¬ (z0 = -1 ∨ z1 = -1) := fun h' => h'.elim a b
    obtain ⟨k0, e0⟩ := (vl_rg (rdA σ o9 11 0)).resolve_left (fun e => a (hv0.symm.trans e))
    obtain ⟨k1, e1⟩ := (vl_rg (rdA σ o9 11 1)).resolve_left (fun e => b (hv1.symm.trans e))
    have e0' : z0 = Int32.ofNat k0.val := hv0.symm.trans e0
    have e1' : z1 = Int32.ofNat k1.val := hv1.symm.trans e1
    clear e0 e1
    have hmg := v_mag k0
    rw [← e0'] at hmg
    have hrow := v_row k0 k1
    rw [← e0', ← e1'] at hrow
    rewrite [hmg.1]
    generalize hmm : fX8_magazineOf z0 = m at hmg ⊢
    refine pw_ite (fun d => pw_sh fun _ => pw_onP (rX9_header h5 c5 t9 hu hc5 hmg.2 hmag) fun q36 hq => pw_some ?_) (fun d => ?_)
    · obtain ⟨n', g', s', r1, r2⟩ := hq
      simp only [k11, k13] at r2
      exact ⟨n', g', s', r1, Or.inr ⟨hnb, Or.inl ⟨d, by rw [hmm]; exact r2⟩⟩⟩
    · have row : (z0 / 8 + 2 * z1 ≤ 24 ∨ z0 / 8 + 2 * z1 = 27) → pw (fX9_packet_104 o9 z0 z1 m (z0 / 8 + 2 * z1) s10) (fun R => ∃ n' g' s', r_S9 o9 s' R.2 n' g' ∧ q_pkt2 n g s (fun k => rdA σ o9 13 k) z0 z1 (fun j => vl (rdA σ o9 11 (2 + j))) (fun j => rdA σ o9 11 j &&& 255) n' g' s' (fun k => rdA R.2 o9 13 k)) := by
        intro hrr
        refine (rX9_packet_104 (w := fun j => vl (rdA σ o9 11 (2 + j))) h5 c5 t9 hmg.2 d ⟨hrow, hrr⟩).mono (fun R hR => ?_)
        obtain ⟨n', g', s', r1, r2⟩ := hR
        simp only [k11, k13] at r2
        exact ⟨n', g', s', r1, Or.inr ⟨hnb, by rw [hmm]; exact r2⟩⟩
      refine pw_ite (fun e => row (Or.inl e)) (fun e => pw_ite (fun f => row (Or.inr f)) (fun f => pw_some ?_))
      exact ⟨n, g, s, h5, Or.inr ⟨hnb, Or.inr (Or.inr (Or.inl ⟨d, fun h' => h'.elim e f, rfl, rfl, rfl, funext k13⟩))⟩⟩
end TN
