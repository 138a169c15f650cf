/-! Constructors: partly built objects (sPO), what an allocation leaves alone (sEV), fresh values (sFV) -/
def kfv (κ j : Nat) (v : Int32) : Prop := match κ with
  | 0 => (match j with | 2 => v = 0 | 3 => v = 1 | 4 => v = 0 | 5 => v = 0 | 6 => v = 2 | _ => True)
  | 2 => (match j with | 1 => v = 0 | _ => True)
  | 6 => (match j with | 1 => v = 0 | _ => True)
  | 8 => (match j with | 4 => v = 0 | 11 => v = 0 | 13 => v = 0 | _ => True)
  | 11 => j < 2 → v = -1
  | 12 => j < 2 → v = -1
  | 18 => j < 5 → v = -1
  | 13 => v = 0 | 61 => v = 0 | 16 => v = 0 | 20 => v = 0 | 21 => v = 0 | 23 => v = 0
  | 9 => v = 0
  | 51 => v = 0 | 52 => v = 0 | 53 => v = 0 | 54 => v = 0 | 55 => j < 4 → v = 1 | 56 => v = 0 | 57 => v = 0 | 58 => j < 4 → v = 2 | 59 => j < 2 → v = -1 | 60 => j < 2 → v = -1 | 63 => v = 0 | 66 => v = 0 | 77 => j < 9 → v = -1 | 91 => j < 5 → v = -1
  | _ => True
def sFV (T : Nat → Option Nat) (σ : mm_M) : Prop := ∀ a κ j, T a = some κ → kfv κ j (mm_I σ a j)
def sGood (F : Prop) (T : Nat → Option Nat) (σ : mm_M) : Prop := sCI T σ ∧ (F → sFV T σ)
def sEV (T : Nat → Option Nat) (σ : mm_M) (T' : Nat → Option Nat) (σ' : mm_M) : Prop := sTX T T' ∧ σ.1 ≤ σ'.1 ∧ ∀ b, b < σ.1 → T' b = T b ∧ (σ'.2.1 b = σ.2.1 b ∧ σ'.2.2.2.2 b = σ.2.2.2.2 b) ∧ ∀ j, mm_I σ' b j = mm_I σ b j ∧ mm_R σ' b j = mm_R σ b j
def sPO (T : Nat → Option Nat) (σ : mm_M) (p : Nat) (sh : Nat ⊕ Nat × Nat) (g : Nat → Int32) (L : List (Nat × Nat)) : Prop := T p = none ∧ σ.2.1 p = some sh ∧ p < σ.1 ∧ (∀ j, mm_I σ p j = g j) ∧ (∀ x ∈ L, mm_R σ p x.1 = some x.2) ∧ (L = [] → ∀ k, mm_R σ p k = none)
section PO
variable {F : Prop} {T T' T2 : Nat → Option Nat} {σ σ' σ2 : mm_M} {p a k j κ : Nat} {sh : Nat ⊕ Nat × Nat} {g : Nat → Int32} {L : List (Nat × Nat)} {v : Int32}
theorem ev_refl : sEV T σ T σ := ⟨tx_refl, Nat.le_refl _, fun _ _ => ⟨rfl, ⟨rfl, rfl⟩, fun _ => ⟨rfl, rfl⟩⟩⟩
theorem ev_trans (h : sEV T σ T' σ') (k : sEV T' σ' T2 σ2) : sEV T σ T2 σ2 := by
  refine ⟨tx_trans h.1 k.1, Nat.le_trans h.2.1 k.2.1, fun b hb => ?_⟩
  obtain ⟨h1, h2, h3⟩ := h.2.2 b hb
  obtain ⟨k1, k2, k3⟩ := k.2.2 b (Nat.lt_of_lt_of_le hb h.2.1)
  exact ⟨k1.trans h1, ⟨k2.1.trans h2.1, k2.2.trans h2.2⟩, fun j => ⟨(k3 j).1.trans (h3 j).1, (k3 j).2.trans (h3 j).2⟩⟩
theorem ev_new (sh : Nat ⊕ Nat × Nat) : sEV T σ T (mm_new σ sh) := by
  refine ⟨tx_refl, Nat.le_succ _, fun b hb => ⟨rfl, ⟨?_, ?_⟩, fun j => ⟨?_, ?_⟩⟩⟩
  · show (if b = σ.1 then some sh else σ.2.1 b) = _
    rw [if_neg (by omega)]
  · show (if b = σ.1 then fun _ => 0 else σ.2.2.2.2 b) = _
    rw [if_neg (by omega)]
  · show (if b = σ.1 then fun _ => 0 else σ.2.2.1 b) j = _
    rw [if_neg (by omega)]
  · show (if b = σ.1 then fun _ => none else σ.2.2.2.1 b) j = _
    rw [if_neg (by omega)]
theorem ev_kup (h : σ.1 ≤ a) (t : T a = none) : sEV T σ (kup T a κ) σ := by
  refine ⟨kup_tx t, Nat.le_refl _, fun b hb => ⟨?_, ⟨rfl, rfl⟩, fun _ => ⟨rfl, rfl⟩⟩⟩
  unfold kup; rw [if_neg (by omega)]
/-- a step that writes at an address beyond the first heap leaves the first heap alone -/
theorem ev_wR (e : sEV T σ T' σ') (h : σ.1 ≤ a) {v : Option Nat} : sEV T σ T' (mm_wR σ' a k v) := by
  refine ⟨e.1, e.2.1, fun b hb => ?_⟩
  obtain ⟨h1, h2, h3⟩ := e.2.2 b hb
  exact ⟨h1, h2, fun j => ⟨(h3 j).1, (mm_up2_ne (by omega) j).trans (h3 j).2⟩⟩
theorem ev_wI (e : sEV T σ T' σ') (h : σ.1 ≤ a) : sEV T σ T' (mm_wI σ' a j v) := by
  refine ⟨e.1, e.2.1, fun b hb => ?_⟩
  obtain ⟨h1, h2, h3⟩ := e.2.2 b hb
  exact ⟨h1, h2, fun i => ⟨(mm_up2_ne (by omega) i).trans (h3 i).1, (h3 i).2⟩⟩
theorem ev_type (e : sEV T σ T' σ') (h : σ.1 ≤ a) (t : T' a = none) : sEV T σ (kup T' a κ) σ' := by
  refine ⟨tx_trans e.1 (kup_tx t), e.2.1, fun b hb => ?_⟩
  obtain ⟨h1, h2, h3⟩ := e.2.2 b hb
  refine ⟨?_, h2, h3⟩
  unfold kup; rw [if_neg (by omega)]; exact h1
theorem ev_fr (e : sEV T σ T' σ') (c : sCI T σ) {K : List Nat} : sFR T K σ σ' :=
  ⟨e.2.1, fun b hb => (e.2.2 b hb).2.1, fun b κ tb j _ => (e.2.2 b (c.2.2.2.2 b κ tb)).2.2 j⟩
theorem gd_new (h : sGood F T σ) (sh : Nat ⊕ Nat × Nat) : sGood F T (mm_new σ sh) := by
  refine ⟨ci_new h.1 sh, fun hF b κ j tb => ?_⟩
  have := h.1.2.2.2.2 b κ tb
  show kfv κ j ((if b = σ.1 then fun _ => 0 else σ.2.2.1 b) j)
  rw [if_neg (by omega)]; exact h.2 hF b κ j tb
theorem gd_wR0 (h : sGood F T σ) (t : T a = none) {v : Option Nat} : sGood F T (mm_wR σ a k v) := ⟨ci_wR0 h.1 t, h.2⟩
theorem gd_wI0 (h : sGood F T σ) (t : T a = none) : sGood F T (mm_wI σ a j v) := by
  refine ⟨ci_wI0 h.1 t, fun hF b κ i tb => ?_⟩
  have hb : b ≠ a := fun e => by subst e; rw [t] at tb; cases tb
  show kfv κ i (mm_up2 σ.2.2.1 a j v b i)
  rw [mm_up2_ne hb]; exact h.2 hF b κ i tb
theorem po_new (h : sCI T σ) (sh : Nat ⊕ Nat × Nat) : sPO T (mm_new σ sh) σ.1 sh (fun _ => 0) [] := by
  refine ⟨ci_fresh h (Nat.le_refl _), ?_, Nat.lt_succ_self _, fun j => ?_, fun x hx => (by cases hx), fun _ k => ?_⟩
  · show (if σ.1 = σ.1 then some sh else σ.2.1 σ.1) = _
    rw [if_pos rfl]
  · show (if σ.1 = σ.1 then fun _ => 0 else σ.2.2.1 σ.1) j = _
    rw [if_pos rfl]
  · show (if σ.1 = σ.1 then fun _ => none else σ.2.2.2.1 σ.1) k = _
    rw [if_pos rfl]
theorem po_ev (h : sPO T σ p sh g L) (e : sEV T σ T' σ') : sPO T' σ' p sh g L := by
  obtain ⟨h1, h2, h3, h4, h5, h6⟩ := h
  obtain ⟨e1, e2, e3⟩ := e.2.2 p h3
  exact ⟨e1.trans h1, e2.1.trans h2, Nat.lt_of_lt_of_le h3 e.2.1, fun j => (e3 j).1.trans (h4 j), fun x hx => (e3 _).2.trans (h5 x hx), fun q k => (e3 k).2.trans (h6 q k)⟩
theorem po_setR (h : sPO T σ p sh g L) (hk : ∀ x ∈ L, x.1 ≠ k) (q : Nat) : sPO T (mm_wR σ p k (some q)) p sh g ((k, q) :: L) := by
  obtain ⟨h1, h2, h3, h4, h5, h6⟩ := h
  refine ⟨h1, h2, h3, h4, fun x hx => ?_, fun q => by cases q⟩
  rcases List.mem_cons.mp hx with rfl | hx
  · exact mm_up2_self
  · exact (mm_up2_nk p (hk x hx)).trans (h5 x hx)
theorem po_setI (h : sPO T σ p sh g L) (j : Nat) (v : Int32) : sPO T (mm_wI σ p j v) p sh (fun i => if i = j then v else g i) L := by
  obtain ⟨h1, h2, h3, h4, h5, h6⟩ := h
  refine ⟨h1, h2, h3, fun i => ?_, h5, h6⟩
  show mm_up2 σ.2.2.1 p j v p i = _
  by_cases e : i = j
  · subst e; rw [mm_up2_self]; exact (if_pos rfl).symm
  · rw [mm_up2_nk p e]; exact (h4 i).trans (if_neg e).symm
theorem po_othR (h : sPO T σ p sh g L) (hp : p ≠ a) {v : Option Nat} : sPO T (mm_wR σ a k v) p sh g L := by
  obtain ⟨h1, h2, h3, h4, h5, h6⟩ := h
  exact ⟨h1, h2, h3, h4, fun x hx => (mm_up2_ne hp _).trans (h5 x hx), fun q k' => (mm_up2_ne hp _).trans (h6 q k')⟩
theorem po_othI (h : sPO T σ p sh g L) (hp : p ≠ a) : sPO T (mm_wI σ a j v) p sh g L := by
  obtain ⟨h1, h2, h3, h4, h5, h6⟩ := h
  exact ⟨h1, h2, h3, fun i => (mm_up2_ne hp _).trans (h4 i), h5, h6⟩
theorem po_kup (h : sPO T σ p sh g L) (hp : p ≠ a) : sPO (kup T a κ) σ p sh g L := by
  obtain ⟨h1, h2⟩ := h
  refine ⟨?_, h2⟩
  unfold kup; rw [if_neg hp]; exact h1
theorem po_ne (h : sPO T σ p sh g L) (t : T a = some κ) : p ≠ a := fun e => by
  subst e; rw [h.1] at t; cases t
/-- the object is built: it gets its kind -/
theorem gd_type (h : sGood F T σ) (P : sPO T σ p sh g L) (hs : kfits κ (some sh)) (hr : ∀ k κ', kref κ k = some κ' → ∃ q, (k, q) ∈ L ∧ T q = some κ') (hn : knul κ = none ∨ L = []) (hi : ∀ j, kr κ j (g j)) (hf : ∀ j, kfv κ j (g j)) : sGood F (kup T p κ) σ := by
  refine ⟨ci_type h.1 P.1 (by rw [P.2.1]; exact hs) (fun k κ' e => ?_) (fun κ' e k => ?_) (fun j => by rw [P.2.2.2.1 j]; exact hi j) P.2.2.1, fun hF b κ' j tb => ?_⟩
  · obtain ⟨q, h1, h2⟩ := hr k κ' e
    exact ⟨q, P.2.2.2.2.1 _ h1, h2⟩
  · rcases hn with hn | hn
    · rw [hn] at e; cases e
    · exact P.2.2.2.2.2 hn k
  · by_cases e : b = p
    · subst e
      rw [kup_self] at tb; cases tb
      rw [P.2.2.2.1 j]; exact hf j
    · unfold kup at tb
      rw [if_neg e] at tb; exact h.2 hF b κ' j tb
/-- a new array that may have its kind at once -/
theorem gd_arr (h : sGood F T σ) (hs : kfits κ (some sh)) (hr : ∀ k, kref κ k = none) (hi : ∀ j, kr κ j 0) (hf : ∀ j, kfv κ j 0) : sGood F (kup T σ.1 κ) (mm_new σ sh) ∧ sEV T σ (kup T σ.1 κ) (mm_new σ sh) ∧ kup T σ.1 κ σ.1 = some κ := by
  have P := po_new h.1 sh
  refine ⟨gd_type (gd_new h sh) P hs (fun k κ' e => by rw [hr k] at e; cases e) (Or.inr rfl) hi hf, ?_, kup_self⟩
  exact ev_type (ev_new sh) (Nat.le_refl _) P.1
end PO
set_option maxHeartbeats 4000000 in
set_option maxRecDepth 10000 in
theorem nX5 {F : Prop} {T : Nat → Option Nat} {σ : mm_M} (G : sGood F T σ) : sw (fX5_init σ.1 (mm_new σ (.inl 5))) (fun R => ∃ T', sEV T σ T' R ∧ sGood F T' R ∧ T' σ.1 = some 5) := by
  have P0 := po_new G.1 (.inl 5)
  have G0 := gd_new G (.inl 5)
  have E0 := ev_new (T := T) (σ := σ) (.inl 5)
  generalize es0 : mm_new σ (.inl 5) = s0 at P0 G0 E0 ⊢
  have b0 : σ.1 ≤ σ.1 := Nat.le_refl _
  unfold fX5_init
  refine sw_let (fun s1 es1 => ?_)
  obtain ⟨T2, G3, F4, t5⟩ : ∃ T', sGood F T' (mm_new s0 (.inr (0, 480))) ∧ sEV T s0 T' (mm_new s0 (.inr (0, 480))) ∧ T' s0.1 = some 20 := ⟨_, gd_arr (κ := 20) G0 ⟨fun sh e => by cases e; rfl, fun e => by cases e⟩ (fun k => rfl) (fun j => kr_n rfl) (fun j => by first | exact rfl | exact trivial)⟩
  rw [es1] at G3 F4
  have P6 := po_ev P0 F4
  have E7 := ev_trans E0 F4
  refine sw_sh P6.2.1 ?_
  refine sw_let (fun s8 es8 => ?_)
  have P9 := po_setR (k := 0) P6 (by simp) (s0.1)
  have G10 := gd_wR0 (k := 0) (v := some (s0.1)) G3 P6.1
  have E11 := ev_wR (k := 0) (v := some (s0.1)) E7 b0
  have ds8 : mm_wR s1 (σ.1) 0 (some (s0.1)) = s8 := es8
  rw [ds8] at P9 G10 E11
  refine sw_let (fun s12 es12 => ?_)
  obtain ⟨T13, G14, F15, t16⟩ : ∃ T', sGood F T' (mm_new s8 (.inr (0, 480))) ∧ sEV T2 s8 T' (mm_new s8 (.inr (0, 480))) ∧ T' s8.1 = some 21 := ⟨_, gd_arr (κ := 21) G10 ⟨fun sh e => by cases e; rfl, fun e => by cases e⟩ (fun k => rfl) (fun j => kr_n rfl) (fun j => by first | exact rfl | exact trivial)⟩
  rw [es12] at G14 F15
  have P17 := po_ev P9 F15
  have t18 := F15.1 _ _ t5
  have E19 := ev_trans E11 F15
  refine sw_sh P17.2.1 ?_
  refine sw_let (fun s20 es20 => ?_)
  have P21 := po_setR (k := 1) P17 (by simp) (s8.1)
  have G22 := gd_wR0 (k := 1) (v := some (s8.1)) G14 P17.1
  have E23 := ev_wR (k := 1) (v := some (s8.1)) E19 b0
  have ds20 : mm_wR s12 (σ.1) 1 (some (s8.1)) = s20 := es20
  rw [ds20] at P21 G22 E23
  obtain ⟨T24, G25, x26, t27, m28⟩ : ∃ T', sGood F T' s20 ∧ sTX T13 T' ∧ T' (σ.1) = some 5 ∧ ∀ b, b ≠ σ.1 → T' b = T13 b := ⟨kup T13 (σ.1) 5, gd_type (κ := 5) G22 P21 ⟨fun sh e => by cases e; rfl, fun e => by cases e⟩ (fun k κ' e => by
    match k, e with
    | 0, e => have e2 : some 20 = some κ' := e; cases e2; exact ⟨s0.1, by simp, t18⟩
    | 1, e => have e2 : some 21 = some κ' := e; cases e2; exact ⟨s8.1, by simp, t16⟩
    | k + 2, e => cases e) (Or.inl rfl) (fun j => kr_n rfl) (fun j => by first | exact rfl | exact trivial), kup_tx P21.1, kup_self, fun b hb => if_neg hb⟩
  have E29 : sEV T σ T24 s20 := ⟨tx_trans E23.1 x26, E23.2.1, fun b hb => ⟨(m28 b (Nat.ne_of_lt (Nat.lt_of_lt_of_le hb b0))).trans (E23.2.2 b hb).1, (E23.2.2 b hb).2⟩⟩
  have t30 := x26 _ _ t18
  have t31 := x26 _ _ t16
  exact sw_some ⟨_, E29, G25, t27⟩
set_option maxHeartbeats 4000000 in
set_option maxRecDepth 10000 in
theorem nX4 {F : Prop} {T : Nat → Option Nat} {σ : mm_M} (G : sGood F T σ) : sw (fX4_init σ.1 (mm_new σ (.inl 4))) (fun R => ∃ T', sEV T σ T' R ∧ sGood F T' R ∧ T' σ.1 = some 4) := by
  have P0 := po_new G.1 (.inl 4)
  have G0 := gd_new G (.inl 4)
  have E0 := ev_new (T := T) (σ := σ) (.inl 4)
  generalize es0 : mm_new σ (.inl 4) = s0 at P0 G0 E0 ⊢
  have b0 : σ.1 ≤ σ.1 := Nat.le_refl _
  unfold fX4_init
  refine sw_let (fun s1 es1 => ?_)
  obtain ⟨T2, G3, F4, t5⟩ : ∃ T', sGood F T' (mm_new s0 (.inr (0, 1000))) ∧ sEV T s0 T' (mm_new s0 (.inr (0, 1000))) ∧ T' s0.1 = some 22 := ⟨_, gd_arr (κ := 22) G0 ⟨fun sh e => by cases e; rfl, fun e => by cases e⟩ (fun k => rfl) (fun j => kr_n rfl) (fun j => by first | exact rfl | exact trivial)⟩
  rw [es1] at G3 F4
  have P6 := po_ev P0 F4
  have E7 := ev_trans E0 F4
  refine sw_sh P6.2.1 ?_
  refine sw_let (fun s8 es8 => ?_)
  have P9 := po_setR (k := 0) P6 (by simp) (s0.1)
  have G10 := gd_wR0 (k := 0) (v := some (s0.1)) G3 P6.1
  have E11 := ev_wR (k := 0) (v := some (s0.1)) E7 b0
  have ds8 : mm_wR s1 (σ.1) 0 (some (s0.1)) = s8 := es8
  rw [ds8] at P9 G10 E11
  refine sw_let (fun s12 es12 => ?_)
  obtain ⟨T13, G14, F15, t16⟩ : ∃ T', sGood F T' (mm_new s8 (.inr (1, 25))) ∧ sEV T2 s8 T' (mm_new s8 (.inr (1, 25))) ∧ T' s8.1 = some 23 := ⟨_, gd_arr (κ := 23) G10 ⟨fun sh e => by cases e; rfl, fun e => by cases e⟩ (fun k => rfl) (fun j => kr_s (lo := 0) (hi := 1) rfl (by decide)) (fun j => by first | exact rfl | exact trivial)⟩
  rw [es12] at G14 F15
  have P17 := po_ev P9 F15
  have t18 := F15.1 _ _ t5
  have E19 := ev_trans E11 F15
  refine sw_sh P17.2.1 ?_
  refine sw_let (fun s20 es20 => ?_)
  have P21 := po_setR (k := 1) P17 (by simp) (s8.1)
  have G22 := gd_wR0 (k := 1) (v := some (s8.1)) G14 P17.1
  have E23 := ev_wR (k := 1) (v := some (s8.1)) E19 b0
  have ds20 : mm_wR s12 (σ.1) 1 (some (s8.1)) = s20 := es20
  rw [ds20] at P21 G22 E23
  obtain ⟨T24, G25, x26, t27, m28⟩ : ∃ T', sGood F T' s20 ∧ sTX T13 T' ∧ T' (σ.1) = some 4 ∧ ∀ b, b ≠ σ.1 → T' b = T13 b := ⟨kup T13 (σ.1) 4, gd_type (κ := 4) G22 P21 ⟨fun sh e => by cases e; rfl, fun e => by cases e⟩ (fun k κ' e => by
    match k, e with
    | 0, e => have e2 : some 22 = some κ' := e; cases e2; exact ⟨s0.1, by simp, t18⟩
    | 1, e => have e2 : some 23 = some κ' := e; cases e2; exact ⟨s8.1, by simp, t16⟩
    | k + 2, e => cases e) (Or.inl rfl) (fun j => kr_n rfl) (fun j => by first | exact rfl | exact trivial), kup_tx P21.1, kup_self, fun b hb => if_neg hb⟩
  have E29 : sEV T σ T24 s20 := ⟨tx_trans E23.1 x26, E23.2.1, fun b hb => ⟨(m28 b (Nat.ne_of_lt (Nat.lt_of_lt_of_le hb b0))).trans (E23.2.2 b hb).1, (E23.2.2 b hb).2⟩⟩
  have t30 := x26 _ _ t18
  have t31 := x26 _ _ t16
  exact sw_some ⟨_, E29, G25, t27⟩
set_option maxHeartbeats 4000000 in
set_option maxRecDepth 10000 in
theorem nX2 {F : Prop} {T : Nat → Option Nat} {σ : mm_M} (G : sGood F T σ) : sw (fX2_init σ.1 (mm_new σ (.inl 2))) (fun R => ∃ T', sEV T σ T' R ∧ sGood F T' R ∧ T' σ.1 = some 2) := by
  have P0 := po_new G.1 (.inl 2)
  have G0 := gd_new G (.inl 2)
  have E0 := ev_new (T := T) (σ := σ) (.inl 2)
  generalize es0 : mm_new σ (.inl 2) = s0 at P0 G0 E0 ⊢
  have b0 : σ.1 ≤ σ.1 := Nat.le_refl _
  unfold fX2_init
  refine sw_let (fun s1 es1 => ?_)
  obtain ⟨T2, G3, F4, t5⟩ : ∃ T', sGood F T' (mm_new s0 (.inr (0, 400))) ∧ sEV T s0 T' (mm_new s0 (.inr (0, 400))) ∧ T' s0.1 = some 26 := ⟨_, gd_arr (κ := 26) G0 ⟨fun sh e => by cases e; rfl, fun e => by cases e⟩ (fun k => rfl) (fun j => kr_n rfl) (fun j => by first | exact rfl | exact trivial)⟩
  rw [es1] at G3 F4
  have P6 := po_ev P0 F4
  have E7 := ev_trans E0 F4
  refine sw_sh P6.2.1 ?_
  refine sw_let (fun s8 es8 => ?_)
  have P9 := po_setR (k := 0) P6 (by simp) (s0.1)
  have G10 := gd_wR0 (k := 0) (v := some (s0.1)) G3 P6.1
  have E11 := ev_wR (k := 0) (v := some (s0.1)) E7 b0
  have ds8 : mm_wR s1 (σ.1) 0 (some (s0.1)) = s8 := es8
  rw [ds8] at P9 G10 E11
  obtain ⟨T12, G13, x14, t15, m16⟩ : ∃ T', sGood F T' s8 ∧ sTX T2 T' ∧ T' (σ.1) = some 2 ∧ ∀ b, b ≠ σ.1 → T' b = T2 b := ⟨kup T2 (σ.1) 2, gd_type (κ := 2) G10 P9 ⟨fun sh e => by cases e; rfl, fun e => by cases e⟩ (fun k κ' e => by
    match k, e with
    | 0, e => have e2 : some 26 = some κ' := e; cases e2; exact ⟨s0.1, by simp, t5⟩
    | k + 1, e => cases e) (Or.inl rfl) (fun j => by
    match j with
    | 0 => exact kr_n rfl
    | 1 => exact kr_s (lo := 0) (hi := 400) rfl (by decide)
    | k + 2 => exact kr_n rfl) (fun j => by
    match j with
    | 0 => first | exact rfl | exact trivial
    | 1 => first | exact rfl | exact trivial
    | k + 2 => exact trivial), kup_tx P9.1, kup_self, fun b hb => if_neg hb⟩
  have E17 : sEV T σ T12 s8 := ⟨tx_trans E11.1 x14, E11.2.1, fun b hb => ⟨(m16 b (Nat.ne_of_lt (Nat.lt_of_lt_of_le hb b0))).trans (E11.2.2 b hb).1, (E11.2.2 b hb).2⟩⟩
  have t18 := x14 _ _ t5
  exact sw_some ⟨_, E17, G13, t15⟩
set_option maxHeartbeats 4000000 in
set_option maxRecDepth 10000 in
theorem nX6 {F : Prop} {T : Nat → Option Nat} {σ : mm_M} (G : sGood F T σ) : sw (fX6_init σ.1 (mm_new σ (.inl 6))) (fun R => ∃ T', sEV T σ T' R ∧ sGood F T' R ∧ T' σ.1 = some 6) := by
  have P0 := po_new G.1 (.inl 6)
  have G0 := gd_new G (.inl 6)
  have E0 := ev_new (T := T) (σ := σ) (.inl 6)
  generalize es0 : mm_new σ (.inl 6) = s0 at P0 G0 E0 ⊢
  have b0 : σ.1 ≤ σ.1 := Nat.le_refl _
  unfold fX6_init
  refine sw_let (fun s1 es1 => ?_)
  obtain ⟨T2, G3, F4, t5⟩ : ∃ T', sGood F T' (mm_new s0 (.inr (5, 20))) ∧ sEV T s0 T' (mm_new s0 (.inr (5, 20))) ∧ T' s0.1 = some 25 := ⟨_, gd_arr (κ := 25) G0 ⟨fun sh e => by cases e; rfl, fun e => by cases e⟩ (fun k => rfl) (fun j => kr_n rfl) (fun j => by first | exact rfl | exact trivial)⟩
  rw [es1] at G3 F4
  have P6 := po_ev P0 F4
  have E7 := ev_trans E0 F4
  refine sw_sh P6.2.1 ?_
  refine sw_let (fun s8 es8 => ?_)
  have P9 := po_setR (k := 0) P6 (by simp) (s0.1)
  have G10 := gd_wR0 (k := 0) (v := some (s0.1)) G3 P6.1
  have E11 := ev_wR (k := 0) (v := some (s0.1)) E7 b0
  have ds8 : mm_wR s1 (σ.1) 0 (some (s0.1)) = s8 := es8
  rw [ds8] at P9 G10 E11
  obtain ⟨T12, G13, x14, t15, m16⟩ : ∃ T', sGood F T' s8 ∧ sTX T2 T' ∧ T' (σ.1) = some 6 ∧ ∀ b, b ≠ σ.1 → T' b = T2 b := ⟨kup T2 (σ.1) 6, gd_type (κ := 6) G10 P9 ⟨fun sh e => by cases e; rfl, fun e => by cases e⟩ (fun k κ' e => by
    match k, e with
    | 0, e => have e2 : some 25 = some κ' := e; cases e2; exact ⟨s0.1, by simp, t5⟩
    | k + 1, e => cases e) (Or.inl rfl) (fun j => by
    match j with
    | 0 => exact kr_n rfl
    | 1 => exact kr_s (lo := 0) (hi := 20) rfl (by decide)
    | k + 2 => exact kr_n rfl) (fun j => by
    match j with
    | 0 => first | exact rfl | exact trivial
    | 1 => first | exact rfl | exact trivial
    | k + 2 => exact trivial), kup_tx P9.1, kup_self, fun b hb => if_neg hb⟩
  have E17 : sEV T σ T12 s8 := ⟨tx_trans E11.1 x14, E11.2.1, fun b hb => ⟨(m16 b (Nat.ne_of_lt (Nat.lt_of_lt_of_le hb b0))).trans (E11.2.2 b hb).1, (E11.2.2 b hb).2⟩⟩
  have t18 := x14 _ _ t5
  exact sw_some ⟨_, E17, G13, t15⟩
set_option maxHeartbeats 4000000 in
set_option maxRecDepth 10000 in
theorem nX7 {F : Prop} {T : Nat → Option Nat} {σ : mm_M} (G : sGood F T σ) : sw (fX7_init σ.1 (mm_new σ (.inl 7))) (fun R => ∃ T', sEV T σ T' R ∧ sGood F T' R ∧ T' σ.1 = some 7) := by
  have P0 := po_new G.1 (.inl 7)
  have G0 := gd_new G (.inl 7)
  have E0 := ev_new (T := T) (σ := σ) (.inl 7)
  generalize es0 : mm_new σ (.inl 7) = s0 at P0 G0 E0 ⊢
  have b0 : σ.1 ≤ σ.1 := Nat.le_refl _
  unfold fX7_init
  refine sw_let (fun s1 es1 => ?_)
  rw [← es1]
  refine sw_on (nX4 G0) ?_
  intro q2 hqq2
  obtain ⟨T3, F5, G4, t6⟩ := hqq2
  have P7 := po_ev P0 F5
  have E8 := ev_trans E0 F5
  refine sw_sh P7.2.1 ?_
  refine sw_let (fun s9 es9 => ?_)
  have P10 := po_setR (k := 0) P7 (by simp) (s0.1)
  have G11 := gd_wR0 (k := 0) (v := some (s0.1)) G4 P7.1
  have E12 := ev_wR (k := 0) (v := some (s0.1)) E8 b0
  have ds9 : mm_wR q2 (σ.1) 0 (some (s0.1)) = s9 := es9
  rw [ds9] at P10 G11 E12
  refine sw_let (fun s13 es13 => ?_)
  have P14 := po_setI P10 1 (-1)
  have G15 := gd_wI0 (j := 1) (v := (-1)) G11 P10.1
  have E16 := ev_wI (j := 1) (v := (-1)) E12 b0
  have ds13 : mm_wI s9 (σ.1) 1 (-1) = s13 := es13
  rw [ds13] at P14 G15 E16
  refine sw_let (fun s17 es17 => ?_)
  have P18 := po_setI P14 2 (-1)
  have G19 := gd_wI0 (j := 2) (v := (-1)) G15 P14.1
  have E20 := ev_wI (j := 2) (v := (-1)) E16 b0
  have ds17 : mm_wI s13 (σ.1) 2 (-1) = s17 := es17
  rw [ds17] at P18 G19 E20
  obtain ⟨T21, G22, x23, t24, m25⟩ : ∃ T', sGood F T' s17 ∧ sTX T3 T' ∧ T' (σ.1) = some 7 ∧ ∀ b, b ≠ σ.1 → T' b = T3 b := ⟨kup T3 (σ.1) 7, gd_type (κ := 7) G19 P18 ⟨fun sh e => by cases e; rfl, fun e => by cases e⟩ (fun k κ' e => by
    match k, e with
    | 0, e => have e2 : some 4 = some κ' := e; cases e2; exact ⟨s0.1, by simp, t6⟩
    | k + 1, e => cases e) (Or.inl rfl) (fun j => kr_n rfl) (fun j => by first | exact rfl | exact trivial), kup_tx P18.1, kup_self, fun b hb => if_neg hb⟩
  have E26 : sEV T σ T21 s17 := ⟨tx_trans E20.1 x23, E20.2.1, fun b hb => ⟨(m25 b (Nat.ne_of_lt (Nat.lt_of_lt_of_le hb b0))).trans (E20.2.2 b hb).1, (E20.2.2 b hb).2⟩⟩
  have t27 := x23 _ _ t6
  exact sw_some ⟨_, E26, G22, t24⟩
set_option maxHeartbeats 4000000 in
set_option maxRecDepth 10000 in
theorem nX3 {F : Prop} {T : Nat → Option Nat} {σ : mm_M} (G : sGood F T σ) : sw (fX3_init σ.1 (mm_new σ (.inl 3))) (fun R => ∃ T', sEV T σ T' R ∧ sGood F T' R ∧ T' σ.1 = some 3) := by
  have P0 := po_new G.1 (.inl 3)
  have G0 := gd_new G (.inl 3)
  have E0 := ev_new (T := T) (σ := σ) (.inl 3)
  generalize es0 : mm_new σ (.inl 3) = s0 at P0 G0 E0 ⊢
  have b0 : σ.1 ≤ σ.1 := Nat.le_refl _
  unfold fX3_init
  refine sw_let (fun s1 es1 => ?_)
  rw [← es1]
  refine sw_on (nX4 G0) ?_
  intro q2 hqq2
  obtain ⟨T3, F5, G4, t6⟩ := hqq2
  have P7 := po_ev P0 F5
  have E8 := ev_trans E0 F5
  refine sw_sh P7.2.1 ?_
  refine sw_let (fun s9 es9 => ?_)
  have P10 := po_setR (k := 0) P7 (by simp) (s0.1)
  have G11 := gd_wR0 (k := 0) (v := some (s0.1)) G4 P7.1
  have E12 := ev_wR (k := 0) (v := some (s0.1)) E8 b0
  have ds9 : mm_wR q2 (σ.1) 0 (some (s0.1)) = s9 := es9
  rw [ds9] at P10 G11 E12
  refine sw_let (fun s13 es13 => ?_)
  obtain ⟨T14, G15, F16, t17⟩ : ∃ T', sGood F T' (mm_new s9 (.inr (0, 18))) ∧ sEV T3 s9 T' (mm_new s9 (.inr (0, 18))) ∧ T' s9.1 = some 24 := ⟨_, gd_arr (κ := 24) G11 ⟨fun sh e => by cases e; rfl, fun e => by cases e⟩ (fun k => rfl) (fun j => kr_n rfl) (fun j => by first | exact rfl | exact trivial)⟩
  rw [es13] at G15 F16
  have P18 := po_ev P10 F16
  have t19 := F16.1 _ _ t6
  have E20 := ev_trans E12 F16
  refine sw_sh P18.2.1 ?_
  refine sw_let (fun s21 es21 => ?_)
  have P22 := po_setR (k := 1) P18 (by simp) (s9.1)
  have G23 := gd_wR0 (k := 1) (v := some (s9.1)) G15 P18.1
  have E24 := ev_wR (k := 1) (v := some (s9.1)) E20 b0
  have ds21 : mm_wR s13 (σ.1) 1 (some (s9.1)) = s21 := es21
  rw [ds21] at P22 G23 E24
  obtain ⟨T25, G26, x27, t28, m29⟩ : ∃ T', sGood F T' s21 ∧ sTX T14 T' ∧ T' (σ.1) = some 3 ∧ ∀ b, b ≠ σ.1 → T' b = T14 b := ⟨kup T14 (σ.1) 3, gd_type (κ := 3) G23 P22 ⟨fun sh e => by cases e; rfl, fun e => by cases e⟩ (fun k κ' e => by
    match k, e with
    | 0, e => have e2 : some 4 = some κ' := e; cases e2; exact ⟨s0.1, by simp, t19⟩
    | 1, e => have e2 : some 24 = some κ' := e; cases e2; exact ⟨s9.1, by simp, t17⟩
    | k + 2, e => cases e) (Or.inl rfl) (fun j => kr_n rfl) (fun j => by first | exact rfl | exact trivial), kup_tx P22.1, kup_self, fun b hb => if_neg hb⟩
  have E30 : sEV T σ T25 s21 := ⟨tx_trans E24.1 x27, E24.2.1, fun b hb => ⟨(m29 b (Nat.ne_of_lt (Nat.lt_of_lt_of_le hb b0))).trans (E24.2.2 b hb).1, (E24.2.2 b hb).2⟩⟩
  have t31 := x27 _ _ t19
  have t32 := x27 _ _ t17
  exact sw_some ⟨_, E30, G26, t28⟩
set_option maxHeartbeats 4000000 in
set_option maxRecDepth 10000 in
theorem nX0 {F : Prop} {T : Nat → Option Nat} {σ : mm_M} (G : sGood F T σ) : sw (fX0_init σ.1 (mm_new σ (.inl 0))) (fun R => ∃ T', sEV T σ T' R ∧ sGood F T' R ∧ T' σ.1 = some 0) := by
  have P0 := po_new G.1 (.inl 0)
  have G0 := gd_new G (.inl 0)
  have E0 := ev_new (T := T) (σ := σ) (.inl 0)
  generalize es0 : mm_new σ (.inl 0) = s0 at P0 G0 E0 ⊢
  have b0 : σ.1 ≤ σ.1 := Nat.le_refl _
  unfold fX0_init
  refine sw_let (fun s1 es1 => ?_)
  rw [← es1]
  refine sw_on (nX5 G0) ?_
  intro q2 hqq2
  obtain ⟨T3, F5, G4, t6⟩ := hqq2
  have P7 := po_ev P0 F5
  have E8 := ev_trans E0 F5
  refine sw_sh P7.2.1 ?_
  refine sw_let (fun s9 es9 => ?_)
  have P10 := po_setR (k := 0) P7 (by simp) (s0.1)
  have G11 := gd_wR0 (k := 0) (v := some (s0.1)) G4 P7.1
  have E12 := ev_wR (k := 0) (v := some (s0.1)) E8 b0
  have ds9 : mm_wR q2 (σ.1) 0 (some (s0.1)) = s9 := es9
  rw [ds9] at P10 G11 E12
  refine sw_let (fun s13 es13 => ?_)
  rw [← es13]
  refine sw_on (nX5 G11) ?_
  intro q14 hqq14
  obtain ⟨T15, F17, G16, t18⟩ := hqq14
  have P19 := po_ev P10 F17
  have t20 := F17.1 _ _ t6
  have E21 := ev_trans E12 F17
  refine sw_sh P19.2.1 ?_
  refine sw_let (fun s22 es22 => ?_)
  have P23 := po_setR (k := 1) P19 (by simp) (s9.1)
  have G24 := gd_wR0 (k := 1) (v := some (s9.1)) G16 P19.1
  have E25 := ev_wR (k := 1) (v := some (s9.1)) E21 b0
  have ds22 : mm_wR q14 (σ.1) 1 (some (s9.1)) = s22 := es22
  rw [ds22] at P23 G24 E25
  refine sw_let (fun s26 es26 => ?_)
  have P27 := po_setI P23 2 0
  have G28 := gd_wI0 (j := 2) (v := 0) G24 P23.1
  have E29 := ev_wI (j := 2) (v := 0) E25 b0
  have ds26 : mm_wI s22 (σ.1) 2 0 = s26 := es26
  rw [ds26] at P27 G28 E29
  refine sw_let (fun s30 es30 => ?_)
  have P31 := po_setI P27 3 1
  have G32 := gd_wI0 (j := 3) (v := 1) G28 P27.1
  have E33 := ev_wI (j := 3) (v := 1) E29 b0
  have ds30 : mm_wI s26 (σ.1) 3 1 = s30 := es30
  rw [ds30] at P31 G32 E33
  refine sw_let (fun s34 es34 => ?_)
  have P35 := po_setI P31 4 0
  have G36 := gd_wI0 (j := 4) (v := 0) G32 P31.1
  have E37 := ev_wI (j := 4) (v := 0) E33 b0
  have ds34 : mm_wI s30 (σ.1) 4 0 = s34 := es34
  rw [ds34] at P35 G36 E37
  refine sw_let (fun s38 es38 => ?_)
  have P39 := po_setI P35 5 0
  have G40 := gd_wI0 (j := 5) (v := 0) G36 P35.1
  have E41 := ev_wI (j := 5) (v := 0) E37 b0
  have ds38 : mm_wI s34 (σ.1) 5 0 = s38 := es38
  rw [ds38] at P39 G40 E41
  refine sw_let (fun s42 es42 => ?_)
  have P43 := po_setI P39 6 2
  have G44 := gd_wI0 (j := 6) (v := 2) G40 P39.1
  have E45 := ev_wI (j := 6) (v := 2) E41 b0
  have ds42 : mm_wI s38 (σ.1) 6 2 = s42 := es42
  rw [ds42] at P43 G44 E45
  obtain ⟨T46, G47, x48, t49, m50⟩ : ∃ T', sGood F T' s42 ∧ sTX T15 T' ∧ T' (σ.1) = some 0 ∧ ∀ b, b ≠ σ.1 → T' b = T15 b := ⟨kup T15 (σ.1) 0, gd_type (κ := 0) G44 P43 ⟨fun sh e => by cases e; rfl, fun e => by cases e⟩ (fun k κ' e => by
    match k, e with
    | 0, e => have e2 : some 5 = some κ' := e; cases e2; exact ⟨s0.1, by simp, t20⟩
    | 1, e => have e2 : some 5 = some κ' := e; cases e2; exact ⟨s9.1, by simp, t18⟩
    | k + 2, e => cases e) (Or.inl rfl) (fun j => by
    match j with
    | 0 => exact kr_n rfl
    | 1 => exact kr_n rfl
    | 2 => exact kr_n rfl
    | 3 => exact kr_s (lo := 1) (hi := 15) rfl (by decide)
    | 4 => exact kr_n rfl
    | 5 => exact kr_n rfl
    | 6 => exact kr_s (lo := 2) (hi := 4) rfl (by decide)
    | k + 7 => exact kr_n rfl) (fun j => by
    match j with
    | 0 => first | exact rfl | exact trivial
    | 1 => first | exact rfl | exact trivial
    | 2 => first | exact rfl | exact trivial
    | 3 => first | exact rfl | exact trivial
    | 4 => first | exact rfl | exact trivial
    | 5 => first | exact rfl | exact trivial
    | 6 => first | exact rfl | exact trivial
    | k + 7 => exact trivial), kup_tx P43.1, kup_self, fun b hb => if_neg hb⟩
  have E51 : sEV T σ T46 s42 := ⟨tx_trans E45.1 x48, E45.2.1, fun b hb => ⟨(m50 b (Nat.ne_of_lt (Nat.lt_of_lt_of_le hb b0))).trans (E45.2.2 b hb).1, (E45.2.2 b hb).2⟩⟩
  have t52 := x48 _ _ t20
  have t53 := x48 _ _ t18
  exact sw_some ⟨_, E51, G47, t49⟩
set_option maxHeartbeats 4000000 in
set_option maxRecDepth 10000 in
theorem nX8 {F : Prop} {T : Nat → Option Nat} {σ : mm_M} (G : sGood F T σ) : sw (fX8_init σ.1 (mm_new σ (.inl 8))) (fun R => ∃ T', sEV T σ T' R ∧ sGood F T' R ∧ T' σ.1 = some 8) := by
  have P0 := po_new G.1 (.inl 8)
  have G0 := gd_new G (.inl 8)
  have E0 := ev_new (T := T) (σ := σ) (.inl 8)
  generalize es0 : mm_new σ (.inl 8) = s0 at P0 G0 E0 ⊢
  have b0 : σ.1 ≤ σ.1 := Nat.le_refl _
  unfold fX8_init
  have n5 : σ.1 ≠ s0.1 := Nat.ne_of_lt P0.2.2.1
  have b6 := E0.2.1
  refine sw_let (fun s1 es1 => ?_)
  have P2 := po_new G0.1 (.inr (4, 4))
  have G3 := gd_new G0 (.inr (4, 4))
  have F4 := ev_new (T := T) (σ := s0) (.inr (4, 4))
  rw [es1] at P2 G3 F4
  have P7 := po_ev P0 F4
  have E8 := ev_trans E0 F4
  refine sw_sh P7.2.1 ?_
  refine sw_let (fun s9 es9 => ?_)
  have P10 := po_setR (k := 0) P7 (by simp) (s0.1)
  have G11 := gd_wR0 (k := 0) (v := some (s0.1)) G3 P7.1
  have E12 := ev_wR (k := 0) (v := some (s0.1)) E8 b0
  have P13 := po_othR (k := 0) (v := some (s0.1)) P2 (Ne.symm n5)
  have ds9 : mm_wR s1 (σ.1) 0 (some (s0.1)) = s9 := es9
  rw [ds9] at P10 G11 E12 P13
  have n18 : σ.1 ≠ s9.1 := Nat.ne_of_lt P10.2.2.1
  have n19 : s0.1 ≠ s9.1 := Nat.ne_of_lt P13.2.2.1
  have b20 := E12.2.1
  refine sw_let (fun s14 es14 => ?_)
  have P15 := po_new G11.1 (.inr (0, 2))
  have G16 := gd_new G11 (.inr (0, 2))
  have F17 := ev_new (T := T) (σ := s9) (.inr (0, 2))
  rw [es14] at P15 G16 F17
  have P21 := po_ev P10 F17
  have P22 := po_ev P13 F17
  have E23 := ev_trans E12 F17
  refine sw_ar P15.2.1 ?_
  refine sw_ib (by decide) ?_
  refine sw_let (fun s24 es24 => ?_)
  have P25 := po_setI P15 0 (-1)
  have G26 := gd_wI0 (j := 0) (v := (-1)) G16 P15.1
  have E27 := ev_wI (j := 0) (v := (-1)) E23 b20
  have P28 := po_othI (j := 0) (v := (-1)) P21 n18
  have P29 := po_othI (j := 0) (v := (-1)) P22 n19
  have ds24 : mm_wI s14 (s9.1) 0 (-1) = s24 := es24
  rw [ds24] at P25 G26 E27 P28 P29
  refine sw_ib (by decide) ?_
  refine sw_let (fun s30 es30 => ?_)
  have P31 := po_setI P25 1 (-1)
  have G32 := gd_wI0 (j := 1) (v := (-1)) G26 P25.1
  have E33 := ev_wI (j := 1) (v := (-1)) E27 b20
  have P34 := po_othI (j := 1) (v := (-1)) P28 n18
  have P35 := po_othI (j := 1) (v := (-1)) P29 n19
  have ds30 : mm_wI s24 (s9.1) 1 (-1) = s30 := es30
  rw [ds30] at P31 G32 E33 P34 P35
  obtain ⟨T36, G37, x38, t39, m40⟩ : ∃ T', sGood F T' s30 ∧ sTX T T' ∧ T' (s9.1) = some 11 ∧ ∀ b, b ≠ s9.1 → T' b = T b := ⟨kup T (s9.1) 11, gd_type (κ := 11) G32 P31 ⟨fun sh e => by cases e; rfl, fun e => by cases e⟩ (fun k κ' e => by cases e) (Or.inl rfl) (fun j => kr_n rfl) (fun j h => by
    match j, h with
    | 0, h => rfl
    | 1, h => rfl
    | k + 2, h => omega), kup_tx P31.1, kup_self, fun b hb => if_neg hb⟩
  have E41 : sEV T σ T36 s30 := ⟨tx_trans E33.1 x38, E33.2.1, fun b hb => ⟨(m40 b (Nat.ne_of_lt (Nat.lt_of_lt_of_le hb b20))).trans (E33.2.2 b hb).1, (E33.2.2 b hb).2⟩⟩
  have P42 : sPO T36 s30 _ _ _ _ := ⟨(m40 _ n18).trans P34.1, P34.2⟩
  have P43 : sPO T36 s30 _ _ _ _ := ⟨(m40 _ n19).trans P35.1, P35.2⟩
  refine sw_sh P42.2.1 ?_
  refine sw_let (fun s44 es44 => ?_)
  have P45 := po_setR (k := 1) P42 (by simp) (s9.1)
  have G46 := gd_wR0 (k := 1) (v := some (s9.1)) G37 P42.1
  have E47 := ev_wR (k := 1) (v := some (s9.1)) E41 b0
  have P48 := po_othR (k := 1) (v := some (s9.1)) P43 (Ne.symm n5)
  have ds44 : mm_wR s30 (σ.1) 1 (some (s9.1)) = s44 := es44
  rw [ds44] at P45 G46 E47 P48
  have n53 : σ.1 ≠ s44.1 := Nat.ne_of_lt P45.2.2.1
  have n54 : s0.1 ≠ s44.1 := Nat.ne_of_lt P48.2.2.1
  have b55 := E47.2.1
  refine sw_let (fun s49 es49 => ?_)
  have P50 := po_new G46.1 (.inr (0, 2))
  have G51 := gd_new G46 (.inr (0, 2))
  have F52 := ev_new (T := T36) (σ := s44) (.inr (0, 2))
  rw [es49] at P50 G51 F52
  have P56 := po_ev P45 F52
  have P57 := po_ev P48 F52
  have t58 := F52.1 _ _ t39
  have E59 := ev_trans E47 F52
  refine sw_ar P50.2.1 ?_
  refine sw_ib (by decide) ?_
  refine sw_let (fun s60 es60 => ?_)
  have P61 := po_setI P50 0 (-1)
  have G62 := gd_wI0 (j := 0) (v := (-1)) G51 P50.1
  have E63 := ev_wI (j := 0) (v := (-1)) E59 b55
  have P64 := po_othI (j := 0) (v := (-1)) P56 n53
  have P65 := po_othI (j := 0) (v := (-1)) P57 n54
  have ds60 : mm_wI s49 (s44.1) 0 (-1) = s60 := es60
  rw [ds60] at P61 G62 E63 P64 P65
  refine sw_ib (by decide) ?_
  refine sw_let (fun s66 es66 => ?_)
  have P67 := po_setI P61 1 (-1)
  have G68 := gd_wI0 (j := 1) (v := (-1)) G62 P61.1
  have E69 := ev_wI (j := 1) (v := (-1)) E63 b55
  have P70 := po_othI (j := 1) (v := (-1)) P64 n53
  have P71 := po_othI (j := 1) (v := (-1)) P65 n54
  have ds66 : mm_wI s60 (s44.1) 1 (-1) = s66 := es66
  rw [ds66] at P67 G68 E69 P70 P71
  obtain ⟨T72, G73, x74, t75, m76⟩ : ∃ T', sGood F T' s66 ∧ sTX T36 T' ∧ T' (s44.1) = some 12 ∧ ∀ b, b ≠ s44.1 → T' b = T36 b := ⟨kup T36 (s44.1) 12, gd_type (κ := 12) G68 P67 ⟨fun sh e => by cases e; rfl, fun e => by cases e⟩ (fun k κ' e => by cases e) (Or.inl rfl) (fun j => kr_n rfl) (fun j h => by
    match j, h with
    | 0, h => rfl
    | 1, h => rfl
    | k + 2, h => omega), kup_tx P67.1, kup_self, fun b hb => if_neg hb⟩
  have E77 : sEV T σ T72 s66 := ⟨tx_trans E69.1 x74, E69.2.1, fun b hb => ⟨(m76 b (Nat.ne_of_lt (Nat.lt_of_lt_of_le hb b55))).trans (E69.2.2 b hb).1, (E69.2.2 b hb).2⟩⟩
  have P78 : sPO T72 s66 _ _ _ _ := ⟨(m76 _ n53).trans P70.1, P70.2⟩
  have P79 : sPO T72 s66 _ _ _ _ := ⟨(m76 _ n54).trans P71.1, P71.2⟩
  have t80 := x74 _ _ t58
  refine sw_sh P78.2.1 ?_
  refine sw_let (fun s81 es81 => ?_)
  have P82 := po_setR (k := 2) P78 (by simp) (s44.1)
  have G83 := gd_wR0 (k := 2) (v := some (s44.1)) G73 P78.1
  have E84 := ev_wR (k := 2) (v := some (s44.1)) E77 b0
  have P85 := po_othR (k := 2) (v := some (s44.1)) P79 (Ne.symm n5)
  have ds81 : mm_wR s66 (σ.1) 2 (some (s44.1)) = s81 := es81
  rw [ds81] at P82 G83 E84 P85
  refine sw_let (fun s86 es86 => ?_)
  obtain ⟨T87, G88, F89, t90⟩ : ∃ T', sGood F T' (mm_new s81 (.inr (0, 60))) ∧ sEV T72 s81 T' (mm_new s81 (.inr (0, 60))) ∧ T' s81.1 = some 13 := ⟨_, gd_arr (κ := 13) G83 ⟨fun sh e => by cases e; rfl, fun e => by cases e⟩ (fun k => rfl) (fun j => kr_n rfl) (fun j => by first | exact rfl | exact trivial)⟩
  rw [es86] at G88 F89
  have P91 := po_ev P82 F89
  have P92 := po_ev P85 F89
  have t93 := F89.1 _ _ t80
  have t94 := F89.1 _ _ t75
  have E95 := ev_trans E84 F89
  refine sw_sh P91.2.1 ?_
  refine sw_let (fun s96 es96 => ?_)
  have P97 := po_setR (k := 3) P91 (by simp) (s81.1)
  have G98 := gd_wR0 (k := 3) (v := some (s81.1)) G88 P91.1
  have E99 := ev_wR (k := 3) (v := some (s81.1)) E95 b0
  have P100 := po_othR (k := 3) (v := some (s81.1)) P92 (Ne.symm n5)
  have ds96 : mm_wR s86 (σ.1) 3 (some (s81.1)) = s96 := es96
  rw [ds96] at P97 G98 E99 P100
  refine sw_let (fun s101 es101 => ?_)
  obtain ⟨T102, G103, F104, t105⟩ : ∃ T', sGood F T' (mm_new s96 (.inr (0, 8))) ∧ sEV T87 s96 T' (mm_new s96 (.inr (0, 8))) ∧ T' s96.1 = some 15 := ⟨_, gd_arr (κ := 15) G98 ⟨fun sh e => by cases e; rfl, fun e => by cases e⟩ (fun k => rfl) (fun j => kr_n rfl) (fun j => by first | exact rfl | exact trivial)⟩
  rw [es101] at G103 F104
  have P106 := po_ev P97 F104
  have P107 := po_ev P100 F104
  have t108 := F104.1 _ _ t93
  have t109 := F104.1 _ _ t94
  have t110 := F104.1 _ _ t90
  have E111 := ev_trans E99 F104
  refine sw_sh P106.2.1 ?_
  refine sw_let (fun s112 es112 => ?_)
  have P113 := po_setR (k := 5) P106 (by simp) (s96.1)
  have G114 := gd_wR0 (k := 5) (v := some (s96.1)) G103 P106.1
  have E115 := ev_wR (k := 5) (v := some (s96.1)) E111 b0
  have P116 := po_othR (k := 5) (v := some (s96.1)) P107 (Ne.symm n5)
  have ds112 : mm_wR s101 (σ.1) 5 (some (s96.1)) = s112 := es112
  rw [ds112] at P113 G114 E115 P116
  refine sw_let (fun s117 es117 => ?_)
  obtain ⟨T118, G119, F120, t121⟩ : ∃ T', sGood F T' (mm_new s112 (.inr (0, 3))) ∧ sEV T102 s112 T' (mm_new s112 (.inr (0, 3))) ∧ T' s112.1 = some 16 := ⟨_, gd_arr (κ := 16) G114 ⟨fun sh e => by cases e; rfl, fun e => by cases e⟩ (fun k => rfl) (fun j => kr_n rfl) (fun j => by first | exact rfl | exact trivial)⟩
  rw [es117] at G119 F120
  have P122 := po_ev P113 F120
  have P123 := po_ev P116 F120
  have t124 := F120.1 _ _ t108
  have t125 := F120.1 _ _ t109
  have t126 := F120.1 _ _ t110
  have t127 := F120.1 _ _ t105
  have E128 := ev_trans E115 F120
  refine sw_sh P122.2.1 ?_
  refine sw_let (fun s129 es129 => ?_)
  have P130 := po_setR (k := 6) P122 (by simp) (s112.1)
  have G131 := gd_wR0 (k := 6) (v := some (s112.1)) G119 P122.1
  have E132 := ev_wR (k := 6) (v := some (s112.1)) E128 b0
  have P133 := po_othR (k := 6) (v := some (s112.1)) P123 (Ne.symm n5)
  have ds129 : mm_wR s117 (σ.1) 6 (some (s112.1)) = s129 := es129
  rw [ds129] at P130 G131 E132 P133
  refine sw_let (fun s134 es134 => ?_)
  rw [← es134]
  refine sw_on (nX6 G131) ?_
  intro q135 hqq135
  obtain ⟨T136, F138, G137, t139⟩ := hqq135
  have P140 := po_ev P130 F138
  have P141 := po_ev P133 F138
  have t142 := F138.1 _ _ t124
  have t143 := F138.1 _ _ t125
  have t144 := F138.1 _ _ t126
  have t145 := F138.1 _ _ t127
  have t146 := F138.1 _ _ t121
  have E147 := ev_trans E132 F138
  refine sw_sh P140.2.1 ?_
  refine sw_let (fun s148 es148 => ?_)
  have P149 := po_setR (k := 7) P140 (by simp) (s129.1)
  have G150 := gd_wR0 (k := 7) (v := some (s129.1)) G137 P140.1
  have E151 := ev_wR (k := 7) (v := some (s129.1)) E147 b0
  have P152 := po_othR (k := 7) (v := some (s129.1)) P141 (Ne.symm n5)
  have ds148 : mm_wR q135 (σ.1) 7 (some (s129.1)) = s148 := es148
  rw [ds148] at P149 G150 E151 P152
  refine sw_let (fun s153 es153 => ?_)
  rw [← es153]
  refine sw_on (nX7 G150) ?_
  intro q154 hqq154
  obtain ⟨T155, F157, G156, t158⟩ := hqq154
  have P159 := po_ev P149 F157
  have P160 := po_ev P152 F157
  have t161 := F157.1 _ _ t142
  have t162 := F157.1 _ _ t143
  have t163 := F157.1 _ _ t144
  have t164 := F157.1 _ _ t145
  have t165 := F157.1 _ _ t146
  have t166 := F157.1 _ _ t139
  have E167 := ev_trans E151 F157
  refine sw_sh P159.2.1 ?_
  refine sw_let (fun s168 es168 => ?_)
  have P169 := po_setR (k := 8) P159 (by simp) (s148.1)
  have G170 := gd_wR0 (k := 8) (v := some (s148.1)) G156 P159.1
  have E171 := ev_wR (k := 8) (v := some (s148.1)) E167 b0
  have P172 := po_othR (k := 8) (v := some (s148.1)) P160 (Ne.symm n5)
  have ds168 : mm_wR q154 (σ.1) 8 (some (s148.1)) = s168 := es168
  rw [ds168] at P169 G170 E171 P172
  refine sw_let (fun s173 es173 => ?_)
  rw [← es173]
  refine sw_on (nX2 G170) ?_
  intro q174 hqq174
  obtain ⟨T175, F177, G176, t178⟩ := hqq174
  have P179 := po_ev P169 F177
  have P180 := po_ev P172 F177
  have t181 := F177.1 _ _ t161
  have t182 := F177.1 _ _ t162
  have t183 := F177.1 _ _ t163
  have t184 := F177.1 _ _ t164
  have t185 := F177.1 _ _ t165
  have t186 := F177.1 _ _ t166
  have t187 := F177.1 _ _ t158
  have E188 := ev_trans E171 F177
  refine sw_sh P179.2.1 ?_
  refine sw_let (fun s189 es189 => ?_)
  have P190 := po_setR (k := 9) P179 (by simp) (s168.1)
  have G191 := gd_wR0 (k := 9) (v := some (s168.1)) G176 P179.1
  have E192 := ev_wR (k := 9) (v := some (s168.1)) E188 b0
  have P193 := po_othR (k := 9) (v := some (s168.1)) P180 (Ne.symm n5)
  have ds189 : mm_wR q174 (σ.1) 9 (some (s168.1)) = s189 := es189
  rw [ds189] at P190 G191 E192 P193
  refine sw_let (fun s194 es194 => ?_)
  obtain ⟨T195, G196, F197, t198⟩ : ∃ T', sGood F T' (mm_new s189 (.inr (6, 60))) ∧ sEV T175 s189 T' (mm_new s189 (.inr (6, 60))) ∧ T' s189.1 = some 17 := ⟨_, gd_arr (κ := 17) G191 ⟨fun sh e => by cases e; rfl, fun e => by cases e⟩ (fun k => rfl) (fun j => kr_n rfl) (fun j => by first | exact rfl | exact trivial)⟩
  rw [es194] at G196 F197
  have P199 := po_ev P190 F197
  have P200 := po_ev P193 F197
  have t201 := F197.1 _ _ t181
  have t202 := F197.1 _ _ t182
  have t203 := F197.1 _ _ t183
  have t204 := F197.1 _ _ t184
  have t205 := F197.1 _ _ t185
  have t206 := F197.1 _ _ t186
  have t207 := F197.1 _ _ t187
  have t208 := F197.1 _ _ t178
  have E209 := ev_trans E192 F197
  refine sw_sh P199.2.1 ?_
  refine sw_let (fun s210 es210 => ?_)
  have P211 := po_setR (k := 10) P199 (by simp) (s189.1)
  have G212 := gd_wR0 (k := 10) (v := some (s189.1)) G196 P199.1
  have E213 := ev_wR (k := 10) (v := some (s189.1)) E209 b0
  have P214 := po_othR (k := 10) (v := some (s189.1)) P200 (Ne.symm n5)
  have ds210 : mm_wR s194 (σ.1) 10 (some (s189.1)) = s210 := es210
  rw [ds210] at P211 G212 E213 P214
  have n219 : σ.1 ≠ s210.1 := Nat.ne_of_lt P211.2.2.1
  have n220 : s0.1 ≠ s210.1 := Nat.ne_of_lt P214.2.2.1
  have b221 := E213.2.1
  refine sw_let (fun s215 es215 => ?_)
  have P216 := po_new G212.1 (.inr (0, 5))
  have G217 := gd_new G212 (.inr (0, 5))
  have F218 := ev_new (T := T195) (σ := s210) (.inr (0, 5))
  rw [es215] at P216 G217 F218
  have P222 := po_ev P211 F218
  have P223 := po_ev P214 F218
  have t224 := F218.1 _ _ t201
  have t225 := F218.1 _ _ t202
  have t226 := F218.1 _ _ t203
  have t227 := F218.1 _ _ t204
  have t228 := F218.1 _ _ t205
  have t229 := F218.1 _ _ t206
  have t230 := F218.1 _ _ t207
  have t231 := F218.1 _ _ t208
  have t232 := F218.1 _ _ t198
  have E233 := ev_trans E213 F218
  refine sw_ar P216.2.1 ?_
  refine sw_ib (by decide) ?_
  refine sw_let (fun s234 es234 => ?_)
  have P235 := po_setI P216 0 (-1)
  have G236 := gd_wI0 (j := 0) (v := (-1)) G217 P216.1
  have E237 := ev_wI (j := 0) (v := (-1)) E233 b221
  have P238 := po_othI (j := 0) (v := (-1)) P222 n219
  have P239 := po_othI (j := 0) (v := (-1)) P223 n220
  have ds234 : mm_wI s215 (s210.1) 0 (-1) = s234 := es234
  rw [ds234] at P235 G236 E237 P238 P239
  refine sw_ib (by decide) ?_
  refine sw_let (fun s240 es240 => ?_)
  have P241 := po_setI P235 1 (-1)
  have G242 := gd_wI0 (j := 1) (v := (-1)) G236 P235.1
  have E243 := ev_wI (j := 1) (v := (-1)) E237 b221
  have P244 := po_othI (j := 1) (v := (-1)) P238 n219
  have P245 := po_othI (j := 1) (v := (-1)) P239 n220
  have ds240 : mm_wI s234 (s210.1) 1 (-1) = s240 := es240
  rw [ds240] at P241 G242 E243 P244 P245
  refine sw_ib (by decide) ?_
  refine sw_let (fun s246 es246 => ?_)
  have P247 := po_setI P241 2 (-1)
  have G248 := gd_wI0 (j := 2) (v := (-1)) G242 P241.1
  have E249 := ev_wI (j := 2) (v := (-1)) E243 b221
  have P250 := po_othI (j := 2) (v := (-1)) P244 n219
  have P251 := po_othI (j := 2) (v := (-1)) P245 n220
  have ds246 : mm_wI s240 (s210.1) 2 (-1) = s246 := es246
  rw [ds246] at P247 G248 E249 P250 P251
  refine sw_ib (by decide) ?_
  refine sw_let (fun s252 es252 => ?_)
  have P253 := po_setI P247 3 (-1)
  have G254 := gd_wI0 (j := 3) (v := (-1)) G248 P247.1
  have E255 := ev_wI (j := 3) (v := (-1)) E249 b221
  have P256 := po_othI (j := 3) (v := (-1)) P250 n219
  have P257 := po_othI (j := 3) (v := (-1)) P251 n220
  have ds252 : mm_wI s246 (s210.1) 3 (-1) = s252 := es252
  rw [ds252] at P253 G254 E255 P256 P257
  refine sw_ib (by decide) ?_
  refine sw_let (fun s258 es258 => ?_)
  have P259 := po_setI P253 4 (-1)
  have G260 := gd_wI0 (j := 4) (v := (-1)) G254 P253.1
  have E261 := ev_wI (j := 4) (v := (-1)) E255 b221
  have P262 := po_othI (j := 4) (v := (-1)) P256 n219
  have P263 := po_othI (j := 4) (v := (-1)) P257 n220
  have ds258 : mm_wI s252 (s210.1) 4 (-1) = s258 := es258
  rw [ds258] at P259 G260 E261 P262 P263
  obtain ⟨T264, G265, x266, t267, m268⟩ : ∃ T', sGood F T' s258 ∧ sTX T195 T' ∧ T' (s210.1) = some 18 ∧ ∀ b, b ≠ s210.1 → T' b = T195 b := ⟨kup T195 (s210.1) 18, gd_type (κ := 18) G260 P259 ⟨fun sh e => by cases e; rfl, fun e => by cases e⟩ (fun k κ' e => by cases e) (Or.inl rfl) (fun j => kr_n rfl) (fun j h => by
    match j, h with
    | 0, h => rfl
    | 1, h => rfl
    | 2, h => rfl
    | 3, h => rfl
    | 4, h => rfl
    | k + 5, h => omega), kup_tx P259.1, kup_self, fun b hb => if_neg hb⟩
  have E269 : sEV T σ T264 s258 := ⟨tx_trans E261.1 x266, E261.2.1, fun b hb => ⟨(m268 b (Nat.ne_of_lt (Nat.lt_of_lt_of_le hb b221))).trans (E261.2.2 b hb).1, (E261.2.2 b hb).2⟩⟩
  have P270 : sPO T264 s258 _ _ _ _ := ⟨(m268 _ n219).trans P262.1, P262.2⟩
  have P271 : sPO T264 s258 _ _ _ _ := ⟨(m268 _ n220).trans P263.1, P263.2⟩
  have t272 := x266 _ _ t224
  have t273 := x266 _ _ t225
  have t274 := x266 _ _ t226
  have t275 := x266 _ _ t227
  have t276 := x266 _ _ t228
  have t277 := x266 _ _ t229
  have t278 := x266 _ _ t230
  have t279 := x266 _ _ t231
  have t280 := x266 _ _ t232
  refine sw_sh P270.2.1 ?_
  refine sw_let (fun s281 es281 => ?_)
  have P282 := po_setR (k := 12) P270 (by simp) (s210.1)
  have G283 := gd_wR0 (k := 12) (v := some (s210.1)) G265 P270.1
  have E284 := ev_wR (k := 12) (v := some (s210.1)) E269 b0
  have P285 := po_othR (k := 12) (v := some (s210.1)) P271 (Ne.symm n5)
  have ds281 : mm_wR s258 (σ.1) 12 (some (s210.1)) = s281 := es281
  rw [ds281] at P282 G283 E284 P285
  refine sw_let (fun s286 es286 => ?_)
  rw [← es286]
  refine sw_on (nX0 G283) ?_
  intro q287 hqq287
  obtain ⟨T288, F290, G289, t291⟩ := hqq287
  have P292 := po_ev P282 F290
  have P293 := po_ev P285 F290
  have t294 := F290.1 _ _ t272
  have t295 := F290.1 _ _ t273
  have t296 := F290.1 _ _ t274
  have t297 := F290.1 _ _ t275
  have t298 := F290.1 _ _ t276
  have t299 := F290.1 _ _ t277
  have t300 := F290.1 _ _ t278
  have t301 := F290.1 _ _ t279
  have t302 := F290.1 _ _ t280
  have t303 := F290.1 _ _ t267
  have E304 := ev_trans E284 F290
  refine sw_onS (q := s0.1) (P282.2.2.2.2.1 (0, s0.1) (by simp)) ?_
  refine sw_ar P293.2.1 ?_
  refine sw_ib (by decide) ?_
  refine sw_sh (ci_sh G289.1 t291 rfl) ?_
  refine sw_let (fun s305 es305 => ?_)
  have P306 := po_setR (k := 0) P293 (by simp) (s281.1)
  have G307 := gd_wR0 (k := 0) (v := some (s281.1)) G289 P293.1
  have E308 := ev_wR (k := 0) (v := some (s281.1)) E304 b6
  have P309 := po_othR (k := 0) (v := some (s281.1)) P292 n5
  have ds305 : mm_wR q287 (s0.1) 0 (some (s281.1)) = s305 := es305
  rw [ds305] at P306 G307 E308 P309
  refine sw_sh P309.2.1 ?_
  refine sw_let (fun s310 es310 => ?_)
  rw [← es310]
  refine sw_on (nX0 G307) ?_
  intro q311 hqq311
  obtain ⟨T312, F314, G313, t315⟩ := hqq311
  have P316 := po_ev P309 F314
  have P317 := po_ev P306 F314
  have t318 := F314.1 _ _ t294
  have t319 := F314.1 _ _ t295
  have t320 := F314.1 _ _ t296
  have t321 := F314.1 _ _ t297
  have t322 := F314.1 _ _ t298
  have t323 := F314.1 _ _ t299
  have t324 := F314.1 _ _ t300
  have t325 := F314.1 _ _ t301
  have t326 := F314.1 _ _ t302
  have t327 := F314.1 _ _ t303
  have t328 := F314.1 _ _ t291
  have E329 := ev_trans E308 F314
  refine sw_onS (q := s0.1) (P309.2.2.2.2.1 (0, s0.1) (by simp)) ?_
  refine sw_ar P317.2.1 ?_
  refine sw_ib (by decide) ?_
  refine sw_sh (ci_sh G313.1 t315 rfl) ?_
  refine sw_let (fun s330 es330 => ?_)
  have P331 := po_setR (k := 1) P317 (by simp) (s305.1)
  have G332 := gd_wR0 (k := 1) (v := some (s305.1)) G313 P317.1
  have E333 := ev_wR (k := 1) (v := some (s305.1)) E329 b6
  have P334 := po_othR (k := 1) (v := some (s305.1)) P316 n5
  have ds330 : mm_wR q311 (s0.1) 1 (some (s305.1)) = s330 := es330
  rw [ds330] at P331 G332 E333 P334
  refine sw_sh P334.2.1 ?_
  refine sw_let (fun s335 es335 => ?_)
  rw [← es335]
  refine sw_on (nX0 G332) ?_
  intro q336 hqq336
  obtain ⟨T337, F339, G338, t340⟩ := hqq336
  have P341 := po_ev P334 F339
  have P342 := po_ev P331 F339
  have t343 := F339.1 _ _ t318
  have t344 := F339.1 _ _ t319
  have t345 := F339.1 _ _ t320
  have t346 := F339.1 _ _ t321
  have t347 := F339.1 _ _ t322
  have t348 := F339.1 _ _ t323
  have t349 := F339.1 _ _ t324
  have t350 := F339.1 _ _ t325
  have t351 := F339.1 _ _ t326
  have t352 := F339.1 _ _ t327
  have t353 := F339.1 _ _ t328
  have t354 := F339.1 _ _ t315
  have E355 := ev_trans E333 F339
  refine sw_onS (q := s0.1) (P334.2.2.2.2.1 (0, s0.1) (by simp)) ?_
  refine sw_ar P342.2.1 ?_
  refine sw_ib (by decide) ?_
  refine sw_sh (ci_sh G338.1 t340 rfl) ?_
  refine sw_let (fun s356 es356 => ?_)
  have P357 := po_setR (k := 2) P342 (by simp) (s330.1)
  have G358 := gd_wR0 (k := 2) (v := some (s330.1)) G338 P342.1
  have E359 := ev_wR (k := 2) (v := some (s330.1)) E355 b6
  have P360 := po_othR (k := 2) (v := some (s330.1)) P341 n5
  have ds356 : mm_wR q336 (s0.1) 2 (some (s330.1)) = s356 := es356
  rw [ds356] at P357 G358 E359 P360
  refine sw_sh P360.2.1 ?_
  refine sw_let (fun s361 es361 => ?_)
  rw [← es361]
  refine sw_on (nX0 G358) ?_
  intro q362 hqq362
  obtain ⟨T363, F365, G364, t366⟩ := hqq362
  have P367 := po_ev P360 F365
  have P368 := po_ev P357 F365
  have t369 := F365.1 _ _ t343
  have t370 := F365.1 _ _ t344
  have t371 := F365.1 _ _ t345
  have t372 := F365.1 _ _ t346
  have t373 := F365.1 _ _ t347
  have t374 := F365.1 _ _ t348
  have t375 := F365.1 _ _ t349
  have t376 := F365.1 _ _ t350
  have t377 := F365.1 _ _ t351
  have t378 := F365.1 _ _ t352
  have t379 := F365.1 _ _ t353
  have t380 := F365.1 _ _ t354
  have t381 := F365.1 _ _ t340
  have E382 := ev_trans E359 F365
  refine sw_onS (q := s0.1) (P360.2.2.2.2.1 (0, s0.1) (by simp)) ?_
  refine sw_ar P368.2.1 ?_
  refine sw_ib (by decide) ?_
  refine sw_sh (ci_sh G364.1 t366 rfl) ?_
  refine sw_let (fun s383 es383 => ?_)
  have P384 := po_setR (k := 3) P368 (by simp) (s356.1)
  have G385 := gd_wR0 (k := 3) (v := some (s356.1)) G364 P368.1
  have E386 := ev_wR (k := 3) (v := some (s356.1)) E382 b6
  have P387 := po_othR (k := 3) (v := some (s356.1)) P367 n5
  have ds383 : mm_wR q362 (s0.1) 3 (some (s356.1)) = s383 := es383
  rw [ds383] at P384 G385 E386 P387
  obtain ⟨T388, G389, x390, t391, m392⟩ : ∃ T', sGood F T' s383 ∧ sTX T363 T' ∧ T' (s0.1) = some 10 ∧ ∀ b, b ≠ s0.1 → T' b = T363 b := ⟨kup T363 (s0.1) 10, gd_type (κ := 10) G385 P384 ⟨fun sh e => by cases e; rfl, fun e => by cases e⟩ (fun k κ' e => by
    match k, e with
    | 0, e => have e2 : some 0 = some κ' := e; cases e2; exact ⟨s281.1, by simp, t379⟩
    | 1, e => have e2 : some 0 = some κ' := e; cases e2; exact ⟨s305.1, by simp, t380⟩
    | 2, e => have e2 : some 0 = some κ' := e; cases e2; exact ⟨s330.1, by simp, t381⟩
    | 3, e => have e2 : some 0 = some κ' := e; cases e2; exact ⟨s356.1, by simp, t366⟩
    | k + 4, e => have e2 : (if k + 4 < 4 then some 0 else none) = some κ' := e; rw [if_neg (by omega)] at e2; cases e2) (Or.inl rfl) (fun j => kr_n rfl) (fun j => by first | exact rfl | exact trivial), kup_tx P384.1, kup_self, fun b hb => if_neg hb⟩
  have E393 : sEV T σ T388 s383 := ⟨tx_trans E386.1 x390, E386.2.1, fun b hb => ⟨(m392 b (Nat.ne_of_lt (Nat.lt_of_lt_of_le hb b6))).trans (E386.2.2 b hb).1, (E386.2.2 b hb).2⟩⟩
  have P394 : sPO T388 s383 _ _ _ _ := ⟨(m392 _ n5).trans P387.1, P387.2⟩
  have t395 := x390 _ _ t369
  have t396 := x390 _ _ t370
  have t397 := x390 _ _ t371
  have t398 := x390 _ _ t372
  have t399 := x390 _ _ t373
  have t400 := x390 _ _ t374
  have t401 := x390 _ _ t375
  have t402 := x390 _ _ t376
  have t403 := x390 _ _ t377
  have t404 := x390 _ _ t378
  have t405 := x390 _ _ t379
  have t406 := x390 _ _ t380
  have t407 := x390 _ _ t381
  have t408 := x390 _ _ t366
  obtain ⟨T409, G410, x411, t412, m413⟩ : ∃ T', sGood F T' s383 ∧ sTX T388 T' ∧ T' (σ.1) = some 8 ∧ ∀ b, b ≠ σ.1 → T' b = T388 b := ⟨kup T388 (σ.1) 8, gd_type (κ := 8) G389 P394 ⟨fun sh e => by cases e; rfl, fun e => by cases e⟩ (fun k κ' e => by
    match k, e with
    | 0, e => have e2 : some 10 = some κ' := e; cases e2; exact ⟨s0.1, by simp, t391⟩
    | 1, e => have e2 : some 11 = some κ' := e; cases e2; exact ⟨s9.1, by simp, t395⟩
    | 2, e => have e2 : some 12 = some κ' := e; cases e2; exact ⟨s44.1, by simp, t396⟩
    | 3, e => have e2 : some 13 = some κ' := e; cases e2; exact ⟨s81.1, by simp, t397⟩
    | 4, e => cases e
    | 5, e => have e2 : some 15 = some κ' := e; cases e2; exact ⟨s96.1, by simp, t398⟩
    | 6, e => have e2 : some 16 = some κ' := e; cases e2; exact ⟨s112.1, by simp, t399⟩
    | 7, e => have e2 : some 6 = some κ' := e; cases e2; exact ⟨s129.1, by simp, t400⟩
    | 8, e => have e2 : some 7 = some κ' := e; cases e2; exact ⟨s148.1, by simp, t401⟩
    | 9, e => have e2 : some 2 = some κ' := e; cases e2; exact ⟨s168.1, by simp, t402⟩
    | 10, e => have e2 : some 17 = some κ' := e; cases e2; exact ⟨s189.1, by simp, t403⟩
    | 11, e => cases e
    | 12, e => have e2 : some 18 = some κ' := e; cases e2; exact ⟨s210.1, by simp, t404⟩
    | k + 13, e => cases e) (Or.inl rfl) (fun j => by
    match j with
    | 0 => exact kr_n rfl
    | 1 => exact kr_n rfl
    | 2 => exact kr_n rfl
    | 3 => exact kr_n rfl
    | 4 => exact kr_s (lo := 0) (hi := 60) rfl (by decide)
    | 5 => exact kr_n rfl
    | 6 => exact kr_n rfl
    | 7 => exact kr_n rfl
    | 8 => exact kr_n rfl
    | 9 => exact kr_n rfl
    | 10 => exact kr_n rfl
    | 11 => exact kr_s (lo := 0) (hi := 60) rfl (by decide)
    | k + 12 => exact kr_n rfl) (fun j => by
    match j with
    | 0 => first | exact rfl | exact trivial
    | 1 => first | exact rfl | exact trivial
    | 2 => first | exact rfl | exact trivial
    | 3 => first | exact rfl | exact trivial
    | 4 => first | exact rfl | exact trivial
    | 5 => first | exact rfl | exact trivial
    | 6 => first | exact rfl | exact trivial
    | 7 => first | exact rfl | exact trivial
    | 8 => first | exact rfl | exact trivial
    | 9 => first | exact rfl | exact trivial
    | 10 => first | exact rfl | exact trivial
    | 11 => first | exact rfl | exact trivial
    | 12 => first | exact rfl | exact trivial
    | 13 => first | exact rfl | exact trivial
    | k + 14 => exact trivial), kup_tx P394.1, kup_self, fun b hb => if_neg hb⟩
  have E414 : sEV T σ T409 s383 := ⟨tx_trans E393.1 x411, E393.2.1, fun b hb => ⟨(m413 b (Nat.ne_of_lt (Nat.lt_of_lt_of_le hb b0))).trans (E393.2.2 b hb).1, (E393.2.2 b hb).2⟩⟩
  have t415 := x411 _ _ t395
  have t416 := x411 _ _ t396
  have t417 := x411 _ _ t397
  have t418 := x411 _ _ t398
  have t419 := x411 _ _ t399
  have t420 := x411 _ _ t400
  have t421 := x411 _ _ t401
  have t422 := x411 _ _ t402
  have t423 := x411 _ _ t403
  have t424 := x411 _ _ t404
  have t425 := x411 _ _ t405
  have t426 := x411 _ _ t406
  have t427 := x411 _ _ t407
  have t428 := x411 _ _ t408
  have t429 := x411 _ _ t391
  exact sw_some ⟨_, E414, G410, t412⟩
