/-! header, rows and links: the class's side -/
def er (u : Nat → Int32) : Nat → Int32 := fun f => if 101 ≤ f ∧ f < 125 then 0 else if 1040 ≤ f ∧ f < 2000 then 0 else if 200 ≤ f ∧ f < 218 then -1 else u f
def fil (t : Nat → Int32) (fr sp r : Nat) (u : Nat → Int32) : Nat → Int32 := fun f => if f = 100 + r then 1 else if 1000 + 40 * r ≤ f ∧ f < 1000 + 40 * r + 40 then tsg t fr sp (f - (1000 + 40 * r)) (if u (100 + r) = 0 then 32 else u f) else u f
def hdc (t : Nat → Int32) (fl : Int32) (u : Nat → Int32) : Nat → Int32 := fil t 10 8 0 (if fl &&& 1 = 0 then u else er u)
/-- links from the values v of the bytes -/
def lnk (m : Int32) (v : Nat → Int32) (u : Nat → Int32) : Nat → Int32 := fun f => if 200 ≤ f ∧ f < 218 then (if ∀ i, i < 6 → v (3 + 6 * ((f - 200) / 3) + i) ≠ -1 then (if (f - 200) % 3 = 0 then fX8_magazineOf (m ^^^ (v (3 + 6 * ((f - 200) / 3) + 3) / 8 + 2 * (v (3 + 6 * ((f - 200) / 3) + 5) / 4))) else if (f - 200) % 3 = 1 then 16 * v (3 + 6 * ((f - 200) / 3) + 1) + v (3 + 6 * ((f - 200) / 3)) else fX8_subcodeOf (v (3 + 6 * ((f - 200) / 3) + 2)) (v (3 + 6 * ((f - 200) / 3) + 3)) (v (3 + 6 * ((f - 200) / 3) + 4)) (v (3 + 6 * ((f - 200) / 3) + 5))) else u f) else u f
theorem er_z {u : Nat → Int32} (h : txz u) : txz (er u) := fun r hr h0 c hc => by
  unfold er at h0 ⊢
  by_cases e : 1 ≤ r
  · rw [if_neg (by omega), if_pos (by omega)]
  · have : r = 0 := by omega
    subst this
    rw [if_neg (by omega), if_neg (by omega), if_neg (by omega)] at h0 ⊢
    exact h 0 (by omega) h0 c hc
theorem fil_z {t : Nat → Int32} {fr sp r : Nat} {u : Nat → Int32} (h : txz u) (hr : r < 25) : txz (fil t fr sp r u) := fun r' hr' h0 c hc => by
  unfold fil at h0 ⊢
  by_cases e : r' = r
  · subst e; rw [if_pos rfl] at h0; exact absurd h0 (by decide)
  · rw [if_neg (by omega), if_neg (by omega)] at h0 ⊢
    exact h r' hr' h0 c hc
theorem hdc_z {t : Nat → Int32} {fl : Int32} {u : Nat → Int32} (h : txz u) : txz (hdc t fl u) := by
  unfold hdc
  refine fil_z ?_ (by omega)
  split
  · exact h
  · exact er_z h
theorem lnk_z {m : Int32} {v u : Nat → Int32} (h : txz u) : txz (lnk m v u) := fun r hr h0 c hc => by
  unfold lnk at h0 ⊢
  rw [if_neg (by omega)] at h0 ⊢
  exact h r hr h0 c hc
section RD
variable {T : Nat → Option Nat} {σ : mm_M} {o8 st pl n : Nat} {Q : Nat → r_Q} {W : Nat × Nat × Nat × Nat} {g : Nat → Nat → Int32}
theorem oa_wA {L : List Nat} {a : Nat} {f : Nat → Int32} (h : a ∈ L) : oa L σ (mm_wA σ a f) := by
  refine ⟨fun b hb j => ?_, fun _ _ => rfl, fun _ => rfl⟩
  show (if b = a then f else σ.2.2.1 b) j = _
  rw [if_neg (fun e : b = a => hb (by rw [e]; exact h))]
theorem lX7_see {p : Nat} (hW : r_W o8 σ W) : pw (fX7_see W.1 p σ) (fun R => oa [W.2.2.1, W.2.2.2] σ R) := by
  unfold fX7_see
  refine pw_sh fun _ => pw_sh fun _ => pw_onP pX3_hasName fun q3 h3 => ?_
  rw [h3.1]
  refine pw_ite (fun _ => pw_some oa_r) (fun _ => pw_sh fun _ => pw_sh fun _ => pw_on fun q7 _ => pw_onS hW.2.1 (pw_sh fun _ => ?_))
  refine pw_onP (P := fun R => oa [W.2.2.1, W.2.2.2] σ R) ?_ fun q10 h10 => pw_some h10
  unfold fX4_copyFrom
  refine pw_sh fun _ => pw_sh fun _ => pw_onS hW.2.2.1 (pw_on fun q4 _ => pw_ar fun _ _ => pw_ar fun _ _ => pw_ck fun _ => pw_let ?_)
  have w : oa [W.2.2.1, W.2.2.2] σ (mm_wA σ W.2.2.1 (va_cpy (mm_I σ q4) (mm_I σ W.2.2.1) (0 : Int32).toNatClampNeg (0 : Int32).toNatClampNeg (1000 : Int32).toNatClampNeg)) := oa_wA (by simp)
  refine pw_onS ((w.2.1 _ _).trans hW.2.2.2) (pw_on fun _ _ => pw_ar fun _ _ => pw_ar fun _ _ => pw_ck fun _ => pw_let (pw_some ?_))
  exact oa_t w (oa_wA (by simp))
/-- places that are no page's -/
theorem r_X.out (hx : r_X Q W σ n g) (c : sCI T σ) (tQ : ∀ i, i < n → T (Q i).1 = some 3) {i : Nat} (hi : i < n) {a κ : Nat} (ta : T a = some κ) (h1 : κ ≠ 22) (h2 : κ ≠ 23) (h3 : κ ≠ 24) : (Q i).2.2.1 ≠ a ∧ (Q i).2.2.2.1 ≠ a ∧ (Q i).2.2.2.2 ≠ a := by
  obtain ⟨ux, uA, uB, uL⟩ := (hx.1 i hi).1.tp c (tQ i hi)
  exact ⟨q_nek uA ta (fun e => h1 e.symm), q_nek uB ta (fun e => h2 e.symm), q_nek uL ta (fun e => h3 e.symm)⟩
theorem rX8_close (h : q_S8 st pl (fun i => (Q i).1) σ n g) (hx : r_X Q W σ n g) (hW : r_W o8 σ W) (e7 : mm_R σ o8 7 = some st) (c : sCI T σ) (t8 : T o8 = some 8) (ts : T st = some 6) {m : Int32} : pw (fX8_closePage o8 m σ) (fun R => r_X Q W R n (q_cl g m) ∧ r_W o8 R W) := by
  unfold fX8_closePage
  obtain ⟨tpl, tP⟩ := h.tp c ts
  obtain ⟨tw, twx, twa, twb⟩ := hW.tp c t8
  have cl : ∀ i f, i < n → 100 ≤ f → g i f = q_cl g m i f := fun i f _ hf => (q_cl_f (by omega) (by omega)).symm
  refine pw_sh fun _ => pw_onS e7 (pw_sh fun _ => pw_onP (pX6_placeOfOpen h) fun q4 hq => ?_)
  obtain ⟨e4, hq⟩ := hq
  rw [e4]
  refine pw_sh fun _ => pw_onP (pX6_pageAt h q4.1) fun q6 h6 => ?_
  obtain ⟨e6, h6⟩ := h6
  rw [e6]
  rcases h6 with ⟨b1, b2, b3⟩ | ⟨-, b3⟩
  · rw [b3]
    refine pw_nu (fun e => by cases e) (fun q e => ?_)
    have eq := Option.some.inj e
    subst eq
    have hj : q4.1.toInt.toNat < n := by omega
    generalize q4.1.toInt.toNat = j at hj
    refine pw_sh fun _ => pw_let (pw_let (pw_sh fun _ => ?_))
    have w : oa [(Q j).1, W.2.2.1, W.2.2.2] σ (mm_wI (mm_wI σ (Q j).1 6 0) (Q j).1 7 (mm_I (mm_wI σ (Q j).1 6 0) (Q j).1 7 + 1)) := oa_t (oa_w (by simp)) (oa_w (by simp))
    have hW2 := hW.keep w
    refine pw_onS hW2.1 (pw_sh fun _ => pw_onP (lX7_see hW2) fun s2 o2 => pw_some ?_)
    have o := oa_t w (oa_m (L' := [(Q j).1, W.2.2.1, W.2.2.2]) o2 (by simp))
    refine ⟨(hx.keep o fun i hi => ?_).cg cl, hW.keep o⟩
    obtain ⟨a1, a2, a3⟩ := hx.out c tP hi (tP j hj) (by decide) (by decide) (by decide)
    obtain ⟨ux, uA, uB, uL⟩ := (hx.1 i hi).1.tp c (tP i hi)
    obtain ⟨w1, w2⟩ := hx.2.2 i hi
    simp only [List.mem_cons, List.not_mem_nil, or_false, not_or]
    exact ⟨⟨a1, w1, q_nek uA twb (by decide)⟩, ⟨a2, q_nek uB twa (by decide), w2⟩, ⟨a3, q_nek uL twa (by decide), q_nek uL twb (by decide)⟩⟩
  · rw [b3]
    exact pw_nu (fun _ => pw_some ⟨hx.cg cl, hW⟩) (fun q e => by cases e)
theorem rX8_111 {q : r_Q} {u : Nat → Int32} (c : sCI T σ) (t8 : T o8 = some 8) (tp : T q.1 = some 3) (ho : pgo σ q) (hv : pgv σ q u) : pw (fX8_openPage_111 o8 q.1 σ) (fun R => oa [q.1, q.2.2.1, q.2.2.2.1, q.2.2.2.2] σ R ∧ pgv R q (fil (rdA σ o8 3) 10 8 0 u)) := by
  unfold fX8_openPage_111
  obtain ⟨ta, eta, tta⟩ := ci_ref c t8 3 (κ' := 13) rfl
  obtain ⟨tx, tA, tB, tL⟩ := ho.tp c tp
  refine pw_sh fun _ => pw_sh fun _ => pw_onS eta (pw_onS ho.1 (pw_sh fun _ => pw_onP (lX4_fill (t := rdA σ o8 3) (r := 0) (s := 8) (f := 10) (q_nek tA tB (by decide)) (q_nek tta tA (by decide)) (q_nek tta tB (by decide)) rfl (by omega) rfl (by omega) rfl (by omega) (by omega) ho.2.1 ho.2.2.1 (ci_sh c tta rfl) (fun j => (rdA_eq eta).symm)) fun R hR => pw_some ?_))
  obtain ⟨o, vB, vA⟩ := hR
  refine ⟨oa_m o (by simp), fun r hr => ?_, fun j hj => ?_, fun k hk => ?_⟩
  · rw [vB r, hv.1 r hr]
    unfold fil
    by_cases e : r = 0
    · rw [if_pos e, if_pos (by omega)]
    · rw [if_neg e, if_neg (by omega), if_neg (by omega)]
  · rw [vA j, hv.1 0 (by omega), hv.2.1 j hj]
    unfold fil
    rw [if_neg (c := 1000 + j = 100 + 0) (by omega)]
    by_cases e : 40 * 0 ≤ j ∧ j < 40 * 0 + 40
    · rw [if_pos e, if_pos (c := 1000 + 40 * 0 ≤ 1000 + j ∧ 1000 + j < 1000 + 40 * 0 + 40) (by omega), show 1000 + j - (1000 + 40 * 0) = j - 40 * 0 by omega]
    · rw [if_neg e, if_neg (by omega)]
  · rw [o.1 _ (by simp; exact ⟨q_nek tL tA (by decide), q_nek tL tB (by decide)⟩), hv.2.2 k hk]
    unfold fil
    rw [if_neg (by omega), if_neg (by omega)]
theorem rX8_86 {q : r_Q} {u : Nat → Int32} (c : sCI T σ) (t8 : T o8 = some 8) (tp : T q.1 = some 3) (ho : pgo σ q) (hv : pgv σ q u) (hz : txz u) {y0 y1 : Int32} : pw (fX8_openPage_86 o8 q.1 y0 y1 q.1 σ) (fun R => oa [q.1, q.2.2.1, q.2.2.2.1, q.2.2.2.2] σ R ∧ pgv R q (hdc (rdA σ o8 3) (y1 + y0) u)) := by
  unfold fX8_openPage_86 hdc
  obtain ⟨tx, tA, tB, tL⟩ := ho.tp c tp
  have c1 := ci_wI (j := 5) (v := y1 + y0) c tp (kr_n rfl)
  have w : oa [q.1, q.2.2.1, q.2.2.2.1, q.2.2.2.2] σ (mm_wI σ q.1 5 (y1 + y0)) := oa_w (by simp)
  have w1 : oa [q.1] σ (mm_wI σ q.1 5 (y1 + y0)) := oa_w (by simp)
  have ho1 : pgo (mm_wI σ q.1 5 (y1 + y0)) q := ho
  have hv1 : pgv (mm_wI σ q.1 5 (y1 + y0)) q u := ⟨fun r hr => (w1.1 _ (by simp; exact q_nek tB tp (by decide)) r).trans (hv.1 r hr), fun j hj => (w1.1 _ (by simp; exact q_nek tA tp (by decide)) j).trans (hv.2.1 j hj), fun k hk => (w1.1 _ (by simp; exact q_nek tL tp (by decide)) k).trans (hv.2.2 k hk)⟩
  have k3 : rdA (mm_wI σ q.1 5 (y1 + y0)) o8 3 = rdA σ o8 3 := funext fun j => rdA_k c t8 (κ' := 13) rfl tp (by decide)
  refine pw_sh fun _ => pw_let (pw_sh fun _ => ?_)
  rw [show mm_I (mm_wI σ q.1 5 (y1 + y0)) q.1 5 = y1 + y0 from mm_up2_self]
  refine pw_ite (fun a => ?_) (fun a => pw_onS ho1.1 (pw_sh fun _ => ?_))
  · rw [if_pos a]
    refine (rX8_111 c1 t8 tp ho1 hv1).mono (fun R hR => ⟨oa_t w hR.1, ?_⟩)
    rw [← k3]; exact hR.2
  · rw [if_neg a]
    refine pw_onP (fun y e => And.intro ((sX4_eraseRows (p1 := 1) c1 tx (by decide)).p y e) (lX4_eraseRows (k := 1) (q_nek tA tB (by decide)) ho1.2.1 ho1.2.2.1 rfl (by omega) (tx0_of hv1 hz) y e)) fun s2 hh => pw_sh fun _ => ?_
    obtain ⟨⟨c2, f2, -⟩, o2, vB, vA⟩ := hh
    have w2 := oa_t w (oa_m (L' := [q.1, q.2.2.1, q.2.2.2.1, q.2.2.2.2]) o2 (by simp))
    refine pw_onP (fun y e => And.intro ((sX3_eraseLinks c2 tp).p y e) (lX3_eraseLinks ((o2.2.1 _ _).trans ho1.2.2.2) (ci_sh c2 tL rfl) y e)) fun s3 hh => ?_
    obtain ⟨⟨c3, f3, -⟩, o3, vL⟩ := hh
    have w3 := oa_t w2 (oa_m (L' := [q.1, q.2.2.1, q.2.2.2.1, q.2.2.2.2]) o3 (by simp))
    have ho3 : pgo s3 q := ⟨(w3.2.1 _ _).trans ho.1, (w3.2.1 _ _).trans ho.2.1, (w3.2.1 _ _).trans ho.2.2.1, (w3.2.1 _ _).trans ho.2.2.2⟩
    have hv3 : pgv s3 q (er u) := by
      refine ⟨fun r hr => ?_, fun j hj => ?_, fun k hk => ?_⟩
      · rw [o3.1 _ (by simp; exact q_nek tB tL (by decide)), vB r hr, hv1.1 r hr]
        unfold er
        by_cases e : 1 ≤ r
        · rw [if_pos e, if_pos (by omega)]
        · rw [if_neg e, if_neg (by omega), if_neg (by omega), if_neg (by omega)]
      · rw [o3.1 _ (by simp; exact q_nek tA tL (by decide)), vA j hj, hv1.2.1 j hj]
        unfold er
        by_cases e : 40 * 1 ≤ j
        · rw [if_pos e, if_neg (by omega), if_pos (by omega)]
        · rw [if_neg e, if_neg (by omega), if_neg (by omega), if_neg (by omega)]
      · rw [vL k hk]
        unfold er
        rw [if_neg (by omega), if_neg (by omega), if_pos (by omega)]
    refine (rX8_111 c3 t8 tp ho3 hv3).mono (fun R hR => ⟨oa_t w3 hR.1, ?_⟩)
    have k4 : rdA s3 o8 3 = rdA σ o8 3 := funext fun j => ((rdA_fr f3 c2 t8 (κ' := 13) rfl rfl rfl).trans (rdA_fr f2 c1 t8 (κ' := 13) rfl rfl rfl)).trans (congrFun k3 j)
    rw [← k4]; exact hR.2
theorem rX8_67 {q : r_Q} {u : Nat → Int32} {va : Nat} (c : sCI T σ) (t8 : T o8 = some 8) (tp : T q.1 = some 3) (ho : pgo σ q) (hv : pgv σ q u) (hz : txz u) (eva : mm_R σ o8 5 = some va) {y0 y1 : Int32} : pw (fX8_openPage_67 o8 q.1 y0 y1 q.1 σ) (fun R => oa [q.1, q.2.2.1, q.2.2.2.1, q.2.2.2.2] σ R ∧ pgv R q (hdc (rdA σ o8 3) ((y1 + y0) + (if mm_I σ va 7 &&& 1 = 0 then 0 else 8)) u)) := by
  unfold fX8_openPage_67
  refine pw_sh fun _ => pw_onS eva (pw_ar fun _ _ => pw_ib fun _ _ => pw_ite (fun a => ?_) (fun a => ?_))
  · have a' : mm_I σ va 7 &&& 1 = 0 := a
    rw [if_pos a']; exact rX8_86 c t8 tp ho hv hz
  · have a' : ¬ mm_I σ va 7 &&& 1 = 0 := a
    rw [if_neg a']; exact rX8_86 c t8 tp ho hv hz
theorem rX8_49 {q : r_Q} {u : Nat → Int32} {va : Nat} (c : sCI T σ) (t8 : T o8 = some 8) (tp : T q.1 = some 3) (ho : pgo σ q) (hv : pgv σ q u) (hz : txz u) (eva : mm_R σ o8 5 = some va) {y0 y1 : Int32} : pw (fX8_openPage_49 o8 q.1 y0 y1 q.1 σ) (fun R => oa [q.1, q.2.2.1, q.2.2.2.1, q.2.2.2.2] σ R ∧ pgv R q (hdc (rdA σ o8 3) (((y1 + y0) + (if mm_I σ va 5 &&& 8 = 0 then 0 else 4)) + (if mm_I σ va 7 &&& 1 = 0 then 0 else 8)) u)) := by
  unfold fX8_openPage_49
  refine pw_sh fun _ => pw_onS eva (pw_ar fun _ _ => pw_ib fun _ _ => pw_ite (fun a => ?_) (fun a => ?_))
  · have a' : mm_I σ va 5 &&& 8 = 0 := a
    rw [if_pos a']; exact rX8_67 c t8 tp ho hv hz eva
  · have a' : ¬ mm_I σ va 5 &&& 8 = 0 := a
    rw [if_neg a']; exact rX8_67 c t8 tp ho hv hz eva
theorem rX8_33 {q : r_Q} {u : Nat → Int32} {va : Nat} (c : sCI T σ) (t8 : T o8 = some 8) (tp : T q.1 = some 3) (ho : pgo σ q) (hv : pgv σ q u) (hz : txz u) (eva : mm_R σ o8 5 = some va) {y0 : Int32} : pw (fX8_openPage_33 o8 q.1 y0 q.1 σ) (fun R => oa [q.1, q.2.2.1, q.2.2.2.1, q.2.2.2.2] σ R ∧ pgv R q (hdc (rdA σ o8 3) (((y0 + (if mm_I σ va 5 &&& 4 = 0 then 0 else 2)) + (if mm_I σ va 5 &&& 8 = 0 then 0 else 4)) + (if mm_I σ va 7 &&& 1 = 0 then 0 else 8)) u)) := by
  unfold fX8_openPage_33
  refine pw_sh fun _ => pw_onS eva (pw_ar fun _ _ => pw_ib fun _ _ => pw_ite (fun a => ?_) (fun a => ?_))
  · have a' : mm_I σ va 5 &&& 4 = 0 := a
    rw [if_pos a']; exact rX8_49 c t8 tp ho hv hz eva
  · have a' : ¬ mm_I σ va 5 &&& 4 = 0 := a
    rw [if_neg a']; exact rX8_49 c t8 tp ho hv hz eva
theorem rX8_open {q : r_Q} {u : Nat → Int32} (c : sCI T σ) (t8 : T o8 = some 8) (tp : T q.1 = some 3) (ho : pgo σ q) (hv : pgv σ q u) (hz : txz u) : pw (fX8_openPage o8 q.1 σ) (fun R => oa [q.1, q.2.2.1, q.2.2.2.1, q.2.2.2.2] σ R ∧ pgv R q (hdc (rdA σ o8 3) (q_fl (rdA σ o8 5 3) (rdA σ o8 5 5) (rdA σ o8 5 7)) u)) := by
  unfold fX8_openPage
  obtain ⟨tx, tA, tB, tL⟩ := ho.tp c tp
  have c1 := ci_wI (j := 6) (v := 1) c tp (kr_n rfl)
  have c2 := ci_wI (j := 8) (v := mm_I (mm_wI σ q.1 6 1) q.1 8 + 1) c1 tp (kr_n rfl)
  obtain ⟨va, eva, tva⟩ := ci_ref c t8 5 (κ' := 15) rfl
  have hne : va ≠ q.1 := q_nek tva tp (by decide)
  rw [rdA_eq eva, rdA_eq eva, rdA_eq eva]
  have w : oa [q.1, q.2.2.1, q.2.2.2.1, q.2.2.2.2] σ (mm_wI (mm_wI σ q.1 6 1) q.1 8 (mm_I (mm_wI σ q.1 6 1) q.1 8 + 1)) := oa_t (oa_w (by simp)) (oa_w (by simp))
  have w1 : oa [q.1] σ (mm_wI (mm_wI σ q.1 6 1) q.1 8 (mm_I (mm_wI σ q.1 6 1) q.1 8 + 1)) := oa_t (oa_w (by simp)) (oa_w (by simp))
  have hv1 : pgv (mm_wI (mm_wI σ q.1 6 1) q.1 8 (mm_I (mm_wI σ q.1 6 1) q.1 8 + 1)) q u := ⟨fun r hr => (w1.1 _ (by simp; exact q_nek tB tp (by decide)) r).trans (hv.1 r hr), fun j hj => (w1.1 _ (by simp; exact q_nek tA tp (by decide)) j).trans (hv.2.1 j hj), fun k hk => (w1.1 _ (by simp; exact q_nek tL tp (by decide)) k).trans (hv.2.2 k hk)⟩
  have k3 : rdA (mm_wI (mm_wI σ q.1 6 1) q.1 8 (mm_I (mm_wI σ q.1 6 1) q.1 8 + 1)) o8 3 = rdA σ o8 3 := funext fun j => (rdA_k c1 t8 (κ' := 13) rfl tp (by decide)).trans (rdA_k c t8 (κ' := 13) rfl tp (by decide))
  have hr : ∀ j, mm_I (mm_wI (mm_wI σ q.1 6 1) q.1 8 (mm_I (mm_wI σ q.1 6 1) q.1 8 + 1)) va j = mm_I σ va j := fun j => by rw [rI_ne hne, rI_ne hne]
  have k := fun y0 => rX8_33 (y0 := y0) c2 t8 tp (show pgo (mm_wI (mm_wI σ q.1 6 1) q.1 8 (mm_I (mm_wI σ q.1 6 1) q.1 8 + 1)) q from ho) hv1 hz eva
  rw [hr, hr, k3] at k
  refine pw_sh fun _ => pw_let (pw_let (pw_sh fun _ => pw_onS eva (pw_ar fun _ _ => pw_ib fun _ _ => ?_)))
  rw [hr]
  unfold q_fl
  refine pw_ite (fun a => ?_) (fun a => ?_)
  · have a' : mm_I σ va 3 &&& 8 = 0 := a
    rw [if_pos a']; exact (k 0).mono (fun R hR => ⟨oa_t w hR.1, hR.2⟩)
  · have a' : ¬ mm_I σ va 3 &&& 8 = 0 := a
    rw [if_neg a']; exact (k 1).mono (fun R hR => ⟨oa_t w hR.1, hR.2⟩)
end RD
def q_opx (g : Nat → Nat → Int32) (j : Nat) (fl : Int32) (t : Nat → Int32) : Nat → Nat → Int32 := fun i f => if i = j ∧ 100 ≤ f then hdc t fl (g j) f else q_opn g j fl i f
def q_hdr2 (n : Nat) (g : Nat → Nat → Int32) (P : Nat → Nat) (b : Bool) (m : Int32) (w t : Nat → Int32) (n' : Nat) (g' : Nat → Nat → Int32) (P' : Nat → Nat) : Prop :=
  (16 * w 1 + w 0 = 255 ∧ n' = n ∧ g' = q_clx g b m 9 ∧ P' = P) ∨
  (16 * w 1 + w 0 ≠ 255 ∧ ∃ g2, q_bn n (q_clx g b m 9) P m (16 * w 1 + w 0) (fX8_subcodeOf (w 2) (w 3) (w 4) (w 5)) n' g2 P' ∧ g' = q_opx g2 (n' - 1) (q_fl (w 3) (w 5) (w 7)) t)
def q_head2 (n : Nat) (g : Nat → Nat → Int32) (P : Nat → Nat) (nt : Nat → Int32) (m : Int32) (w t : Nat → Int32) (n' : Nat) (g' : Nat → Nat → Int32) (P' : Nat → Nat) (nt' : Nat → Int32) : Prop :=
  ((∃ j, j < 8 ∧ w j = -1) ∧ n' = n ∧ g' = g ∧ P' = P ∧ nt' = q_inc nt 1) ∨
  ((∀ j, j < 8 → w j ≠ -1) ∧ q_hdr2 n g P (decide (w 7 &&& 1 = 1)) m w t n' g' P' ∧ nt' = nt)
/-- a row's text, or links, come to page j -/
def q_rwx (g : Nat → Nat → Int32) (j : Nat) (m r : Int32) (t : Nat → Int32) : Nat → Nat → Int32 := q_app g j (if r = 27 then (if vl (t 2) = 0 then lnk m (fun i => vl (t i)) (g j) else g j) else fil t 2 0 r.toInt.toNat (g j))
def q_row2 (n : Nat) (g : Nat → Nat → Int32) (P : Nat → Nat) (nt : Nat → Int32) (m r : Int32) (w t : Nat → Int32) (n' : Nat) (g' : Nat → Nat → Int32) (P' : Nat → Nat) (nt' : Nat → Int32) : Prop :=
  (r = 0 ∧ q_head2 n g P nt m w t n' g' P' nt') ∨
  (r ≠ 0 ∧ (r ≤ 24 ∨ r = 27) ∧ (∀ i, i < n → ¬ q_op g m i) ∧ n' = n ∧ g' = g ∧ P' = P ∧ nt' = q_inc nt 2) ∨
  (r ≠ 0 ∧ ¬ (r ≤ 24 ∨ r = 27) ∧ n' = n ∧ g' = g ∧ P' = P ∧ nt' = nt) ∨
  (r ≠ 0 ∧ (r ≤ 24 ∨ r = 27) ∧ ∃ j, j < n ∧ q_op g m j ∧ n' = n ∧ g' = q_rwx g j m r t ∧ P' = P ∧ nt' = nt)
def q_pkt2 (n : Nat) (g : Nat → Nat → Int32) (P : Nat → Nat) (nt : Nat → Int32) (v0 v1 : Int32) (w t : Nat → Int32) (n' : Nat) (g' : Nat → Nat → Int32) (P' : Nat → Nat) (nt' : Nat → Int32) : Prop :=
  ((v0 = -1 ∨ v1 = -1) ∧ n' = n ∧ g' = g ∧ P' = P ∧ nt' = q_inc nt 0) ∨
  (¬ (v0 = -1 ∨ v1 = -1) ∧ q_row2 n g P nt (fX8_magazineOf v0) (v0 / 8 + 2 * v1) w t n' g' P' nt')
/-- the class's store, with rows and links -/
def r_S8 (o8 st pl : Nat) (Q : Nat → r_Q) (W : Nat × Nat × Nat × Nat) (σ : mm_M) (n : Nat) (g : Nat → Nat → Int32) : Prop := q_S8 st pl (fun i => (Q i).1) σ n g ∧ r_X Q W σ n g ∧ r_W o8 σ W
section RE
variable {T : Nat → Option Nat} {σ σ' : mm_M} {o8 st pl n : Nat} {Q : Nat → r_Q} {W : Nat × Nat × Nat × Nat} {g : Nat → Nat → Int32}
theorem r_W.fr {K : List Nat} (h : r_W o8 σ W) (c : sCI T σ) (t8 : T o8 = some 8) (f : sFR T K σ σ') (h808 : K.contains 808 = false) (h7 : K.contains 7 = false) (h4 : K.contains 4 = false) : r_W o8 σ' W := by
  obtain ⟨a, b, d, e⟩ := h.tp c t8
  exact ⟨(f.2.2 o8 8 t8 8 h808).2.trans h.1, (f.2.2 _ 7 a 0 h7).2.trans h.2.1, (f.2.2 _ 4 b 0 h4).2.trans h.2.2.1, (f.2.2 _ 4 b 1 h4).2.trans h.2.2.2⟩
theorem r_S8.fr {K : List Nat} (h : r_S8 o8 st pl Q W σ n g) (c : sCI T σ) (t8 : T o8 = some 8) (ts : T st = some 6) (f : sFR T K σ σ') (hK : K.all (fun x => !(3 ≤ x && x ≤ 4) && !(6 ≤ x && x ≤ 7) && !(22 ≤ x && x ≤ 25) && !(x == 808)) = true) : r_S8 o8 st pl Q W σ' n g := by
  have k : ∀ x, (3 ≤ x ∧ x ≤ 4) ∨ (6 ≤ x ∧ x ≤ 7) ∨ (22 ≤ x ∧ x ≤ 25) ∨ x = 808 → K.contains x = false := fun x hx => q_no fun y hy => by
    have h1 := List.all_eq_true.mp hK y hy
    simp only [Bool.and_eq_true, Bool.not_eq_true', Bool.and_eq_false_iff, decide_eq_false_iff_not, beq_eq_false_iff_ne] at h1
    omega
  exact ⟨h.1.fr c ts f (k 3 (by omega)) (k 6 (by omega)) (k 25 (by omega)), h.2.1.fr c (h.1.tp c ts).2 f (k 3 (by omega)) (k 4 (by omega)) (k 22 (by omega)) (k 23 (by omega)) (k 24 (by omega)), h.2.2.fr c t8 f (k 808 (by omega)) (k 7 (by omega)) (k 4 (by omega))⟩
theorem rX8_opened {j : Nat} (h : r_S8 o8 st pl Q W σ n g) (c : sCI T σ) (t8 : T o8 = some 8) (ts : T st = some 6) (hj : j < n) : pw (fX8_openPage o8 (Q j).1 σ) (fun R => r_S8 o8 st pl Q W R n (q_opx g j (q_fl (rdA σ o8 5 3) (rdA σ o8 5 5) (rdA σ o8 5 7)) (rdA σ o8 3))) := by
  obtain ⟨h1, hx, hW⟩ := h
  obtain ⟨tpl, tP⟩ := h1.tp c ts
  obtain ⟨ho, hv, hz⟩ := hx.1 j hj
  obtain ⟨tx, tA, tB, tL⟩ := ho.tp c (tP j hj)
  intro R eR
  have a := pX8_opened (j := j) h1 c t8 ts hj rfl R eR
  obtain ⟨o, v⟩ := rX8_open c t8 (tP j hj) ho hv hz R eR
  generalize q_fl (rdA σ o8 5 3) (rdA σ o8 5 5) (rdA σ o8 5 7) = fl at a v ⊢
  refine ⟨a.cg fun i f hi f1 f2 => ?_, (hx.oau (j := j) o (fun i hi hij => ?_) v (hdc_z hz)).cg fun i f hi hf => ?_, hW.keep o⟩
  · unfold q_opx; rw [if_neg (by omega)]
  · obtain ⟨ux, uA, uB, uL⟩ := (hx.1 i hi).1.tp c (tP i hi)
    obtain ⟨d1, d2, d3⟩ := hx.2.1 i j hi hj hij
    simp only [List.mem_cons, List.not_mem_nil, or_false, not_or]
    exact ⟨⟨q_nek uA (tP j hj) (by decide), d1, q_nek uA tB (by decide), q_nek uA tL (by decide)⟩, ⟨q_nek uB (tP j hj) (by decide), q_nek uB tA (by decide), d2, q_nek uB tL (by decide)⟩, ⟨q_nek uL (tP j hj) (by decide), q_nek uL tA (by decide), q_nek uL tB (by decide), d3⟩⟩
  · unfold q_app q_opx
    by_cases e : i = j
    · rw [if_pos e, if_pos ⟨e, hf⟩]
    · rw [if_neg e, if_neg (fun h => e h.1)]
      unfold q_opn
      rw [if_neg e]
theorem rX8_header_end (h : r_S8 o8 st pl Q W σ n g) (e7 : mm_R σ o8 7 = some st) (c : sCI T σ) (t8 : T o8 = some 8) (ts : T st = some 6) (hp : pnd σ o8) {w : Nat → Int32} (hw : ∀ j, j < 8 → rdA σ o8 5 j = w j) {u : Nat} {m x2 x3 : Int32} (hx3 : 8 < x3.toInt) : pw (fX8_takeHeader_42 (u + 1) o8 m x2 x3 σ) (fun R => (∀ k, rdA R o8 6 k = rdA σ o8 6 k) ∧ ∃ n' g' Q', r_S8 o8 st pl Q' W R n' g' ∧ ((16 * w 1 + w 0 = 255 ∧ n' = n ∧ g' = g ∧ (fun i => (Q' i).1) = fun i => (Q i).1) ∨ (16 * w 1 + w 0 ≠ 255 ∧ ∃ g2, q_bn n g (fun i => (Q i).1) m (16 * w 1 + w 0) (fX8_subcodeOf (w 2) (w 3) (w 4) (w 5)) n' g2 (fun i => (Q' i).1) ∧ g' = q_opx g2 (n' - 1) (q_fl (w 3) (w 5) (w 7)) (rdA σ o8 3)))) := by
  unfold fX8_takeHeader_42
  obtain ⟨va, eva, tva⟩ := ci_ref c t8 5 (κ' := 15) rfl
  have hv : ∀ j, j < 8 → mm_I σ va j = w j := fun j hj => by rw [← hw j hj, rdA_eq eva]
  have v0 : mm_I σ va (0 : Int32).toNatClampNeg = w 0 := hv 0 (by omega)
  have v1 : mm_I σ va (1 : Int32).toNatClampNeg = w 1 := hv 1 (by omega)
  have v2 : mm_I σ va (2 : Int32).toNatClampNeg = w 2 := hv 2 (by omega)
  have v3 : mm_I σ va (3 : Int32).toNatClampNeg = w 3 := hv 3 (by omega)
  have v4 : mm_I σ va (4 : Int32).toNatClampNeg = w 4 := hv 4 (by omega)
  have v5 : mm_I σ va (5 : Int32).toNatClampNeg = w 5 := hv 5 (by omega)
  rw [if_pos (by rw [zi_lt]; exact hx3)]
  refine pw_sh fun _ => pw_onS eva (pw_ar fun _ _ => pw_ib fun _ _ => pw_onS eva (pw_ar fun _ _ => pw_ib fun _ _ => ?_))
  rw [v1, v0]
  refine pw_ite (fun a => pw_some ⟨fun _ => rfl, n, g, Q, h, Or.inl ⟨a, rfl, rfl, rfl⟩⟩) (fun a => ?_)
  refine pw_onS eva (pw_ar fun _ _ => pw_ib fun _ _ => pw_onS eva (pw_ar fun _ _ => pw_ib fun _ _ => pw_onS eva (pw_ar fun _ _ => pw_ib fun _ _ => pw_onS eva (pw_ar fun _ _ => pw_ib fun _ _ => pw_onS e7 (pw_sh fun _ => ?_)))))
  rw [v2, v3, v4, v5]
  have hpn : pn σ st := hp st e7
  refine pw_onP (fun y e => And.intro ((sX6_bringToEnd c ts hpn).p y e) (rX6_bring h.1 h.2.1 h.2.2 c t8 ts hpn y e)) fun q32 hh => ?_
  obtain ⟨⟨T', tx, c2, f2, -⟩, n', g2, Q', hn', r1, h2, hx2, bn⟩ := hh
  have H2 : r_S8 o8 st pl Q' W q32.2 n' g2 := ⟨h2, hx2, h.2.2.fr c t8 f2 rfl rfl rfl⟩
  refine pw_onS r1 (pw_sh fun _ => ?_)
  have hv5 : ∀ j, j < 8 → rdA q32.2 o8 5 j = w j := fun j hj => (rdA_fr f2 c t8 (κ' := 15) rfl rfl rfl).trans (hw j hj)
  have hv3 : rdA q32.2 o8 3 = rdA σ o8 3 := funext fun j => rdA_fr f2 c t8 (κ' := 13) rfl rfl rfl
  have tp : T' (Q' (n' - 1)).1 = some 3 := (h2.tp c2 (tx _ _ ts)).2 _ (by omega)
  refine pw_onP (fun y e => And.intro ((sX8_openPage c2 (tx _ _ t8) tp).p y e) (rX8_opened (j := n' - 1) H2 c2 (tx _ _ t8) (tx _ _ ts) (by omega) y e)) fun q35 hh => ?_
  obtain ⟨⟨-, f3, -⟩, h35⟩ := hh
  refine pw_some ⟨fun k => (rdA_fr f3 c2 (tx _ _ t8) (κ' := 16) rfl rfl rfl).trans (rdA_fr f2 c t8 (κ' := 16) rfl rfl rfl), n', _, Q', h35, Or.inr ⟨a, g2, bn, ?_⟩⟩
  rw [hv5 3 (by omega), hv5 5 (by omega), hv5 7 (by omega), hv3]
theorem rX8_takeHeader_42 (hu : q_ou n g) (t8 : T o8 = some 8) (ts : T st = some 6) {w t : Nat → Int32} {m x2 : Int32} {b : Bool} (hb : x2 = 0 ↔ b = false) : ∀ (u : Nat) (x3 : Int32) (σ : mm_M), sCI T σ → r_S8 o8 st pl Q W σ n (q_clx g b m x3.toInt) → mm_R σ o8 7 = some st → pnd σ o8 → (∀ j, j < 8 → rdA σ o8 5 j = w j) → (∀ j, rdA σ o8 3 j = t j) → 1 ≤ x3.toInt → x3.toInt ≤ 9 → pw (fX8_takeHeader_42 u o8 m x2 x3 σ) (fun R => (∀ k, rdA R o8 6 k = rdA σ o8 6 k) ∧ ∃ n' g' Q', r_S8 o8 st pl Q' W R n' g' ∧ q_hdr2 n g (fun i => (Q i).1) b m w t n' g' (fun i => (Q' i).1)) := by
  intro u
  induction u with
  | zero => intros; exact pw_none
  | succ u ih =>
    intro x3 σ c h e7 hp hw ht h1 h9
    by_cases h8 : 8 < x3.toInt
    · have e9 : x3.toInt = 9 := by omega
      rw [e9] at h
      refine (rX8_header_end h e7 c t8 ts hp hw h8).mono (fun R hR => ?_)
      obtain ⟨r0, n', g', Q', r1, r2⟩ := hR
      rw [show rdA σ o8 3 = t from funext ht] at r2
      exact ⟨r0, n', g', Q', r1, r2⟩
    · have ex := zi_p1 (x := x3) (by omega)
      have close : b = true ∨ x3 = m → pw (fX8_takeHeader_57 (fX8_takeHeader_42 u) o8 m x2 x3 σ) (fun R => (∀ k, rdA R o8 6 k = rdA σ o8 6 k) ∧ ∃ n' g' Q', r_S8 o8 st pl Q' W R n' g' ∧ q_hdr2 n g (fun i => (Q i).1) b m w t n' g' (fun i => (Q' i).1)) := by
        intro hbm
        unfold fX8_takeHeader_57
        refine pw_sh fun _ => pw_onP (fun y e => And.intro ((sX8_closePage c t8).p y e) (And.intro (pX8_closePage h.1 e7 c t8 ts (hu.clx _ _ _) y e) (rX8_close h.1 h.2.1 h.2.2 e7 c t8 ts y e))) fun s2 hh => ?_
        obtain ⟨⟨c2, f2, -⟩, h2, hx2, hw2⟩ := hh
        refine (ih (x3 + 1) s2 c2 (by rw [ex, q_clx_yes h1 hbm]; exact ⟨h2, hx2, hw2⟩) ((f2.2.2 o8 8 t8 7 rfl).2.trans e7) (pnd_fr hp f2 c t8 rfl rfl rfl) (fun j hj => (rdA_fr f2 c t8 (κ' := 15) rfl rfl rfl).trans (hw j hj)) (fun j => (rdA_fr f2 c t8 (κ' := 13) rfl rfl rfl).trans (ht j)) (by omega) (by omega)).mono (fun R hR => ⟨fun k => (hR.1 k).trans (rdA_fr f2 c t8 (κ' := 16) rfl rfl rfl), hR.2⟩)
      unfold fX8_takeHeader_42
      rw [if_neg (by rw [zi_lt]; exact h8)]
      refine pw_ite (fun a => pw_ite (fun d => close (Or.inr d)) (fun d => ?_)) (fun a => close (Or.inl ?_))
      · exact ih (x3 + 1) σ c (by rw [ex, q_clx_no (hb.mp a) d]; exact h) e7 hp hw ht (by omega) (by omega)
      · cases b with
        | true => rfl
        | false => exact absurd (hb.mpr rfl) a
theorem rX8_takeHeader (h : r_S8 o8 st pl Q W σ n g) (e7 : mm_R σ o8 7 = some st) (c : sCI T σ) (t8 : T o8 = some 8) (ts : T st = some 6) (hp : pnd σ o8) (hu : q_ou n g) (hb : ∀ j, rdA σ o8 3 j &&& 255 = rdA σ o8 3 j) {m : Int32} : pw (fX8_takeHeader o8 m σ) (fun R => ∃ n' g' Q', r_S8 o8 st pl Q' W R n' g' ∧ q_head2 n g (fun i => (Q i).1) (fun k => rdA σ o8 6 k) m (fun j => vl (rdA σ o8 3 (2 + j))) (fun j => rdA σ o8 3 j) n' g' (fun i => (Q' i).1) (fun k => rdA R o8 6 k)) := by
  unfold fX8_takeHeader
  refine pw_sh fun _ => pw_onP (fun y e => And.intro ((sX8_readValues c t8).p y e) (pX8_readValues (fr := 2) (cn := 8) c t8 hb rfl rfl (by omega) (by omega) y e)) fun q2 hh => ?_
  obtain ⟨⟨c2, f2, -⟩, hv⟩ := hh
  have h2 : r_S8 o8 st pl Q W q2.2 n g := h.fr c t8 ts f2 rfl
  have e72 : mm_R q2.2 o8 7 = some st := (f2.2.2 o8 8 t8 7 rfl).2.trans e7
  have k6 : ∀ k, rdA q2.2 o8 6 k = rdA σ o8 6 k := fun k => rdA_fr f2 c t8 (κ' := 16) rfl rfl rfl
  have k3 : ∀ k, rdA q2.2 o8 3 k = rdA σ o8 3 k := fun k => rdA_fr f2 c t8 (κ' := 13) rfl rfl rfl
  have hp2 : pnd q2.2 o8 := pnd_fr hp f2 c t8 rfl rfl rfl
  rcases hv with ⟨a1, a2⟩ | ⟨a1, a2⟩
  · rw [if_neg (by rw [a1]; decide)]
    obtain ⟨va, eva, tva⟩ := ci_ref c2 t8 5 (κ' := 15) rfl
    refine pw_sh fun _ => pw_onS eva (pw_ar fun _ _ => pw_ib fun _ _ => ?_)
    have e7v : mm_I q2.2 va (7 : Int32).toNatClampNeg = vl (rdA σ o8 3 (2 + 7)) := by
      rw [← (a2 7 (by omega)).2, rdA_eq eva]; rfl
    rw [e7v]
    have fin : ∀ x2 : Int32, (x2 = 0 ↔ decide (vl (rdA σ o8 3 (2 + 7)) &&& 1 = 1) = false) → pw (fX8_takeHeader_42 mm_fuel o8 m x2 1 q2.2) (fun R => ∃ n' g' Q', r_S8 o8 st pl Q' W R n' g' ∧ q_head2 n g (fun i => (Q i).1) (fun k => rdA σ o8 6 k) m (fun j => vl (rdA σ o8 3 (2 + j))) (fun j => rdA σ o8 3 j) n' g' (fun i => (Q' i).1) (fun k => rdA R o8 6 k)) := by
      intro x2 hx2
      refine (rX8_takeHeader_42 hu t8 ts hx2 _ 1 q2.2 c2 (by rw [show (1 : Int32).toInt = 1 from rfl, q_clx_1]; exact h2) e72 hp2 (fun j hj => (a2 j hj).2) k3 (by decide) (by decide)).mono (fun R hR => ?_)
      obtain ⟨r0, n', g', Q', r1, r2⟩ := hR
      exact ⟨n', g', Q', r1, Or.inr ⟨fun j hj => (a2 j hj).1, r2, funext fun k => (r0 k).trans (k6 k)⟩⟩
    refine pw_ite (fun a => fin 1 ?_) (fun a => fin 0 ?_)
    · rw [decide_eq_false_iff_not]; exact ⟨fun h => absurd h (by decide), fun h => absurd a h⟩
    · rw [decide_eq_false_iff_not]; exact ⟨fun _ => a, fun _ => rfl⟩
  · rw [if_pos a1]
    obtain ⟨na, ena, tna⟩ := ci_ref c2 t8 6 (κ' := 16) rfl
    refine pw_sh fun _ => pw_onS ena (pw_ar fun _ _ => pw_ib fun _ _ => pw_ib fun _ _ => pw_let (pw_some ⟨n, g, Q, ?_, Or.inl ⟨a2, rfl, rfl, rfl, ?_⟩⟩))
    · exact r_S8.fr (T := T) (K := [16]) h2 c2 t8 ts (fr_wI fr_refl tna rfl) rfl
    · funext k
      refine Eq.trans (rdA_inc (j := 1) ena k) ?_
      simp only [q_inc, k6]
theorem mend_same {x : Int32} : pw (fX8_mend x σ) (fun R => R.2 = σ) := by
  intro R e
  rw [po_mend] at e
  cases h : fX8_mend x mm_e0 with
  | none => rw [h] at e; cases e
  | some r => rw [h] at e; cases e; rfl
theorem valueAt_same {x : Int32} : pw (fX8_valueAt o8 x σ) (fun R => R.2 = σ) := by
  unfold fX8_valueAt
  refine pw_ite (fun _ => pw_sh fun _ => pw_on fun _ _ => pw_ar fun _ _ => pw_ib fun _ _ => pw_onP mend_same fun q6 e6 => ?_) (fun _ => pw_some rfl)
  exact pw_ite (fun _ => pw_some e6) (fun _ => pw_some e6)
theorem lX8_rv {va : Nat} {x1 x2 : Int32} : ∀ (u : Nat) (x3 : Int32) (σ : mm_M), mm_R σ o8 5 = some va → pw (fX8_readValues_2 u o8 x1 x2 x3 σ) (fun R => oa [va] σ R.2) := by
  intro u
  induction u with
  | zero => intros; exact pw_none
  | succ u ih =>
    intro x3 σ e
    unfold fX8_readValues_2
    refine pw_ite (fun _ => pw_some oa_r) (fun _ => pw_sh fun _ => pw_on fun _ _ => pw_ar fun _ _ => pw_ite (fun _ => pw_some oa_r) (fun _ => pw_onP valueAt_same fun q6 e6 => ?_))
    refine pw_ite (fun _ => pw_some (by rw [e6]; exact oa_r)) (fun _ => ?_)
    rw [e6]
    refine pw_sh fun _ => pw_onS e (pw_ar fun _ _ => pw_ib fun _ _ => pw_let ?_)
    have w : oa [va] σ (mm_wI σ va x3.toNatClampNeg q6.1) := oa_w (by simp)
    exact (ih (x3 + 1) (mm_wI σ va x3.toNatClampNeg q6.1) e).mono (fun R hR => oa_t w hR)
end RE
section RF
variable {T : Nat → Option Nat} {σ : mm_M} {o8 st pl n : Nat} {Q : Nat → r_Q} {W : Nat × Nat × Nat × Nat} {g : Nat → Nat → Int32}
theorem zi_3k {x : Int32} {k : Nat} (hx : x.toInt = k) (hk : k < 6) : (3 * x).toNatClampNeg = 3 * k ∧ (3 * x + 1).toNatClampNeg = 3 * k + 1 ∧ (3 * x + 2).toNatClampNeg = 3 * k + 2 ∧ (3 + 6 * x).toInt = 3 + 6 * k := by
  have e3 : (3 : Int32).toInt = 3 := rfl
  have e6 : (6 : Int32).toInt = 6 := rfl
  have a : (3 * x).toInt = 3 * k := by rw [zi_mul, e3, hx, zi_bm (by omega) (by omega)]
  have b : (6 * x).toInt = 6 * k := by rw [zi_mul, e6, hx, zi_bm (by omega) (by omega)]
  refine ⟨by rw [zi_clamp, a]; omega, ?_, ?_, by rw [zi_add, b, e3, zi_bm (by omega) (by omega)]⟩
  · rw [zi_clamp, zi_add, a, show (1 : Int32).toInt = 1 from rfl, zi_bm (by omega) (by omega)]; omega
  · rw [zi_clamp, zi_add, a, show (2 : Int32).toInt = 2 from rfl, zi_bm (by omega) (by omega)]; omega
/-- links up to k have come -/
def lnkk (k : Nat) (m : Int32) (v u : Nat → Int32) : Nat → Int32 := fun i => if i < 3 * k then lnk m v u (200 + i) else u (200 + i)
theorem lnk_no {m : Int32} {v u : Nat → Int32} {k i : Nat} (hk : k < 6) (h : ∃ j, j < 6 ∧ v (3 + 6 * k + j) = -1) (hi : 3 * k ≤ i ∧ i < 3 * (k + 1)) : lnk m v u (200 + i) = u (200 + i) := by
  unfold lnk
  have e : (200 + i - 200) / 3 = k := by omega
  rw [if_pos (by omega), e, if_neg]
  intro h'
  obtain ⟨j, hj, ej⟩ := h
  exact h' j hj ej
theorem lnk_yes {m : Int32} {v u : Nat → Int32} {k : Nat} (hk : k < 6) (h : ∀ j, j < 6 → v (3 + 6 * k + j) ≠ -1) : lnk m v u (200 + 3 * k) = fX8_magazineOf (m ^^^ (v (3 + 6 * k + 3) / 8 + 2 * (v (3 + 6 * k + 5) / 4))) ∧ lnk m v u (200 + (3 * k + 1)) = 16 * v (3 + 6 * k + 1) + v (3 + 6 * k) ∧ lnk m v u (200 + (3 * k + 2)) = fX8_subcodeOf (v (3 + 6 * k + 2)) (v (3 + 6 * k + 3)) (v (3 + 6 * k + 4)) (v (3 + 6 * k + 5)) := by
  unfold lnk
  have e0 : (200 + 3 * k - 200) / 3 = k := by omega
  have e1 : (200 + (3 * k + 1) - 200) / 3 = k := by omega
  have e2 : (200 + (3 * k + 2) - 200) / 3 = k := by omega
  have m0 : (200 + 3 * k - 200) % 3 = 0 := by omega
  have m1 : (200 + (3 * k + 1) - 200) % 3 = 1 := by omega
  have m2 : (200 + (3 * k + 2) - 200) % 3 = 2 := by omega
  refine ⟨?_, ?_, ?_⟩
  · rw [if_pos (by omega), e0, if_pos h, m0, if_pos rfl]
  · rw [if_pos (by omega), e1, if_pos h, m1, if_neg (by decide), if_pos rfl]
  · rw [if_pos (by omega), e2, if_pos h, m2, if_neg (by decide), if_neg (by decide)]
theorem rX8_links_11 (t8 : T o8 = some 8) {q : r_Q} (tq : T q.1 = some 3) (tL : T q.2.2.2.2 = some 24) {va : Nat} (tva : T va = some 15) {m : Int32} {t u : Nat → Int32} (hb : ∀ j, t j &&& 255 = t j) : ∀ (N : Nat) (x : Int32) (k : Nat) (σ : mm_M), sCI T σ → mm_R σ q.1 1 = some q.2.2.2.2 → mm_R σ o8 5 = some va → (∀ j, rdA σ o8 3 j = t j) → x.toInt = k → k ≤ 6 → (∀ i, i < 18 → mm_I σ q.2.2.2.2 i = lnkk k m (fun i => vl (t i)) u i) → pw (fX8_takeLinks_11 N o8 q.1 m x σ) (fun R => oa [va, q.2.2.2.2] σ R ∧ ∀ i, i < 18 → mm_I R q.2.2.2.2 i = lnk m (fun i => vl (t i)) u (200 + i)) := by
  intro N
  induction N with
  | zero => intros; exact pw_none
  | succ N ih =>
    intro x k σ c e1 e5 ht hx hk hv
    unfold fX8_takeLinks_11
    have ex := zi_p1 (x := x) (by omega)
    have nL : q.2.2.2.2 ≠ va := q_nek tL tva (by decide)
    refine pw_ite (fun a => pw_some ⟨oa_r, fun i hi => ?_⟩) (fun a => pw_sh fun _ => ?_)
    · rw [zi_le] at a; simp only [Int32.reduceToInt] at a
      rw [hv i hi]; unfold lnkk; rw [if_pos (by omega)]
    rw [zi_le] at a
    simp only [Int32.reduceToInt] at a
    have hk6 : k < 6 := by omega
    obtain ⟨i0, i1, i2, ib⟩ := zi_3k hx hk6
    refine pw_onP (fun y e => And.intro ((sX8_readValues c t8).p y e) (And.intro (pX8_readValues (fr := 3 + 6 * k) (cn := 6) c t8 (fun j => by rw [ht]; exact hb j) (by rw [ib]; omega) rfl (by omega) (by omega) y e) (lX8_rv _ _ _ e5 y e))) fun q6 hh => ?_
    obtain ⟨⟨c6, f6, -⟩, hr, o6⟩ := hh
    have w6 : oa [va, q.2.2.2.2] σ q6.2 := oa_m o6 (by simp)
    have ht6 : ∀ j, rdA q6.2 o8 3 j = t j := fun j => (rdA_fr f6 c t8 (κ' := 13) rfl rfl rfl).trans (ht j)
    have hL6 : ∀ i, mm_I q6.2 q.2.2.2.2 i = mm_I σ q.2.2.2.2 i := fun i => o6.1 _ (by simp; exact nL) i
    simp only [ht] at hr
    rcases hr with ⟨a1, a2⟩ | ⟨a1, a2⟩
    · rw [if_neg (by rw [a1]; decide)]
      have vv : ∀ j, j < 6 → mm_I q6.2 va j = vl (t (3 + 6 * k + j)) := fun j hj => by rw [← (a2 j hj).2, rdA_eq ((o6.2.1 _ _).trans e5)]
      have e5' : mm_R q6.2 o8 5 = some va := (o6.2.1 _ _).trans e5
      have e1' : mm_R q6.2 q.1 1 = some q.2.2.2.2 := (o6.2.1 _ _).trans e1
      refine pw_sh fun _ => pw_onS e5' (pw_ar fun _ _ => pw_ib fun _ _ => pw_onS e5' (pw_ar fun _ _ => pw_ib fun _ _ => pw_sh fun _ => pw_onS e1' (pw_ar fun _ _ => pw_ib fun _ _ => pw_let ?_)))
      rw [i0]
      have s1 : ∀ v, oa [q.2.2.2.2] q6.2 (mm_wI q6.2 q.2.2.2.2 (3 * k) v) := fun v => oa_w (by simp)
      have r3 : mm_I q6.2 va (3 : Int32).toNatClampNeg = vl (t (3 + 6 * k + 3)) := vv 3 (by omega)
      have r5 : mm_I q6.2 va (5 : Int32).toNatClampNeg = vl (t (3 + 6 * k + 5)) := vv 5 (by omega)
      rw [r3, r5]
      generalize hA : fX8_magazineOf (m ^^^ (vl (t (3 + 6 * k + 3)) / 8 + 2 * (vl (t (3 + 6 * k + 5)) / 4))) = A
      have va1 : ∀ j, mm_I (mm_wI q6.2 q.2.2.2.2 (3 * k) A) va j = mm_I q6.2 va j := fun j => rI_ne (fun e => nL e.symm)
      refine pw_onS e5' (pw_ar fun _ _ => pw_ib fun _ _ => pw_onS e5' (pw_ar fun _ _ => pw_ib fun _ _ => pw_onS e1' (pw_ar fun _ _ => pw_ib fun _ _ => pw_let ?_)))
      rw [i1]
      have r1 : mm_I (mm_wI q6.2 q.2.2.2.2 (3 * k) A) va (1 : Int32).toNatClampNeg = vl (t (3 + 6 * k + 1)) := (va1 _).trans (vv 1 (by omega))
      have r0 : mm_I (mm_wI q6.2 q.2.2.2.2 (3 * k) A) va (0 : Int32).toNatClampNeg = vl (t (3 + 6 * k)) := (va1 _).trans (vv 0 (by omega))
      rw [r1, r0]
      generalize hB : 16 * vl (t (3 + 6 * k + 1)) + vl (t (3 + 6 * k)) = B
      have va2 : ∀ j, mm_I (mm_wI (mm_wI q6.2 q.2.2.2.2 (3 * k) A) q.2.2.2.2 (3 * k + 1) B) va j = mm_I q6.2 va j := fun j => (rI_ne (fun e => nL e.symm)).trans (va1 j)
      refine pw_onS e5' (pw_ar fun _ _ => pw_ib fun _ _ => pw_onS e5' (pw_ar fun _ _ => pw_ib fun _ _ => pw_onS e5' (pw_ar fun _ _ => pw_ib fun _ _ => pw_onS e5' (pw_ar fun _ _ => pw_ib fun _ _ => pw_onS e1' (pw_ar fun _ _ => pw_ib fun _ _ => pw_let ?_)))))
      rw [i2]
      have r2 : mm_I (mm_wI (mm_wI q6.2 q.2.2.2.2 (3 * k) A) q.2.2.2.2 (3 * k + 1) B) va (2 : Int32).toNatClampNeg = vl (t (3 + 6 * k + 2)) := (va2 _).trans (vv 2 (by omega))
      have r3' : mm_I (mm_wI (mm_wI q6.2 q.2.2.2.2 (3 * k) A) q.2.2.2.2 (3 * k + 1) B) va (3 : Int32).toNatClampNeg = vl (t (3 + 6 * k + 3)) := (va2 _).trans (vv 3 (by omega))
      have r4 : mm_I (mm_wI (mm_wI q6.2 q.2.2.2.2 (3 * k) A) q.2.2.2.2 (3 * k + 1) B) va (4 : Int32).toNatClampNeg = vl (t (3 + 6 * k + 4)) := (va2 _).trans (vv 4 (by omega))
      have r5' : mm_I (mm_wI (mm_wI q6.2 q.2.2.2.2 (3 * k) A) q.2.2.2.2 (3 * k + 1) B) va (5 : Int32).toNatClampNeg = vl (t (3 + 6 * k + 5)) := (va2 _).trans (vv 5 (by omega))
      rw [r2, r3', r4, r5']
      generalize hD : fX8_subcodeOf (vl (t (3 + 6 * k + 2))) (vl (t (3 + 6 * k + 3))) (vl (t (3 + 6 * k + 4))) (vl (t (3 + 6 * k + 5))) = D
      have c7 := ci_wI (j := 3 * k) (v := A) c6 tL (kr_n rfl)
      have c8 := ci_wI (j := 3 * k + 1) (v := B) c7 tL (kr_n rfl)
      have c9 := ci_wI (j := 3 * k + 2) (v := D) c8 tL (kr_n rfl)
      have w9 : oa [va, q.2.2.2.2] σ (mm_wI (mm_wI (mm_wI q6.2 q.2.2.2.2 (3 * k) A) q.2.2.2.2 (3 * k + 1) B) q.2.2.2.2 (3 * k + 2) D) := oa_t (oa_t (oa_t w6 (oa_w (by simp))) (oa_w (by simp))) (oa_w (by simp))
      have ht9 : ∀ j, rdA (mm_wI (mm_wI (mm_wI q6.2 q.2.2.2.2 (3 * k) A) q.2.2.2.2 (3 * k + 1) B) q.2.2.2.2 (3 * k + 2) D) o8 3 j = t j := fun j => ((rdA_k c8 t8 (κ' := 13) rfl tL (by decide)).trans ((rdA_k c7 t8 (κ' := 13) rfl tL (by decide)).trans (rdA_k c6 t8 (κ' := 13) rfl tL (by decide)))).trans (ht6 j)
      have vL : ∀ i, mm_I (mm_wI (mm_wI (mm_wI q6.2 q.2.2.2.2 (3 * k) A) q.2.2.2.2 (3 * k + 1) B) q.2.2.2.2 (3 * k + 2) D) q.2.2.2.2 i = if i = 3 * k + 2 then D else if i = 3 * k + 1 then B else if i = 3 * k then A else mm_I σ q.2.2.2.2 i := fun i => by
        by_cases d2 : i = 3 * k + 2
        · subst d2; rw [if_pos rfl]; exact mm_up2_self
        rw [if_neg d2]
        refine (mm_up2_nk _ d2).trans ?_
        by_cases d1 : i = 3 * k + 1
        · subst d1; rw [if_pos rfl]; exact mm_up2_self
        rw [if_neg d1]
        refine (mm_up2_nk _ d1).trans ?_
        by_cases d0 : i = 3 * k
        · subst d0; rw [if_pos rfl]; exact mm_up2_self
        rw [if_neg d0]
        exact (mm_up2_nk _ d0).trans (hL6 i)
      obtain ⟨y0, y1, y2⟩ := lnk_yes (m := m) (v := fun i => vl (t i)) (u := u) hk6 (fun j hj => (a2 j hj).1)
      refine (ih (x + 1) (k + 1) _ c9 e1' e5' ht9 (by omega) (by omega) (fun i hi => ?_)).mono (fun R hR => ⟨oa_t w9 hR.1, hR.2⟩)
      rw [vL i]
      unfold lnkk
      by_cases d2 : i = 3 * k + 2
      · rw [if_pos d2, if_pos (by omega), d2, y2]; exact hD.symm
      rw [if_neg d2]
      by_cases d1 : i = 3 * k + 1
      · rw [if_pos d1, if_pos (by omega), d1, y1]; exact hB.symm
      rw [if_neg d1]
      by_cases d0 : i = 3 * k
      · rw [if_pos d0, if_pos (by omega), d0, y0]; exact hA.symm
      rw [if_neg d0, hv i hi]
      unfold lnkk
      by_cases d : i < 3 * k
      · rw [if_pos d, if_pos (by omega)]
      · rw [if_neg d, if_neg (by omega)]
    · rw [if_pos a1]
      refine (ih (x + 1) (k + 1) q6.2 c6 ((o6.2.1 _ _).trans e1) ((o6.2.1 _ _).trans e5) ht6 (by omega) (by omega) (fun i hi => ?_)).mono (fun R hR => ⟨oa_t w6 hR.1, hR.2⟩)
      rw [hL6, hv i hi]
      unfold lnkk
      by_cases d : i < 3 * k
      · rw [if_pos d, if_pos (by omega)]
      · rw [if_neg d]
        by_cases d' : i < 3 * (k + 1)
        · rw [if_pos d', lnk_no hk6 a2 ⟨by omega, d'⟩]
        · rw [if_neg d']
theorem rX8_links (c : sCI T σ) (t8 : T o8 = some 8) {q : r_Q} (tq : T q.1 = some 3) (ho : pgo σ q) {u : Nat → Int32} (hv : pgv σ q u) (hb : ∀ j, rdA σ o8 3 j &&& 255 = rdA σ o8 3 j) {m : Int32} {va : Nat} (e5 : mm_R σ o8 5 = some va) : pw (fX8_takeLinks o8 q.1 m σ) (fun R => oa [va, q.2.2.2.2] σ R ∧ ∀ i, i < 18 → mm_I R q.2.2.2.2 i = (if vl (rdA σ o8 3 2) = 0 then lnk m (fun i => vl (rdA σ o8 3 i)) u else u) (200 + i)) := by
  unfold fX8_takeLinks
  obtain ⟨tx, tA, tB, tL⟩ := ho.tp c tq
  obtain ⟨va', eva, tva⟩ := ci_ref c t8 5 (κ' := 15) rfl
  have : va' = va := Option.some.inj (eva.symm.trans e5)
  subst this
  refine pw_sh fun _ => pw_onP (pX8_valueAt (by decide) (hb _)) fun q2 e2 => ?_
  subst e2
  show pw (if vl (rdA σ o8 3 2) = 0 then _ else _) _
  refine pw_ite (fun a => ?_) (fun a => ?_)
  · rw [if_pos a]
    refine rX8_links_11 t8 tq tL tva hb _ 0 0 σ c ho.2.2.2 e5 (fun _ => rfl) rfl (by omega) (fun i hi => ?_)
    unfold lnkk
    rw [if_neg (by omega)]
    exact hv.2.2 i hi
  · rw [if_neg a]
    exact pw_some ⟨oa_r, fun i hi => hv.2.2 i hi⟩
theorem rX8_takeRow_23 (h : r_S8 o8 st pl Q W σ n g) (e7 : mm_R σ o8 7 = some st) (c : sCI T σ) (t8 : T o8 = some 8) (ts : T st = some 6) (hb : ∀ j, rdA σ o8 3 j &&& 255 = rdA σ o8 3 j) {m r : Int32} (hr0 : r ≠ 0) (hr : 0 ≤ r.toInt ∧ (r ≤ 24 ∨ r = 27)) {w : Nat → Int32} : pw (fX8_takeRow_23 o8 m r σ) (fun R => ∃ n' g' Q', r_S8 o8 st pl Q' W R n' g' ∧ q_row2 n g (fun i => (Q i).1) (fun k => rdA σ o8 6 k) m r w (fun j => rdA σ o8 3 j) n' g' (fun i => (Q' i).1) (fun k => rdA R o8 6 k)) := by
  unfold fX8_takeRow_23
  obtain ⟨h1, hx, hW⟩ := h
  obtain ⟨tpl, tP⟩ := h1.tp c ts
  refine pw_sh fun _ => pw_onS e7 (pw_sh fun _ => pw_onP (pX6_placeOfOpen h1) fun q4 hq => ?_)
  obtain ⟨e4, hq⟩ := hq
  rw [e4]
  refine pw_sh fun _ => pw_onP (pX6_pageAt h1 q4.1) fun q6 h6 => ?_
  obtain ⟨e6, h6⟩ := h6
  rw [e6]
  rcases hq with ⟨a1, a2⟩ | ⟨a1, a2, a3, -⟩
  · rcases h6 with ⟨b1, -, -⟩ | ⟨-, b3⟩
    · exfalso; rw [a1] at b1; exact absurd b1 (by decide)
    · rw [b3]
      obtain ⟨na, ena, tna⟩ := ci_ref c t8 6 (κ' := 16) rfl
      refine pw_nu (fun _ => pw_sh fun _ => pw_onS ena (pw_ar fun _ _ => pw_ib fun _ _ => pw_ib fun _ _ => pw_let (pw_some ⟨n, g, Q, ?_, Or.inr (Or.inl ⟨hr0, hr.2, a2, rfl, rfl, rfl, funext fun k => rdA_inc (j := 2) ena k⟩)⟩))) (fun q e => by cases e)
      exact r_S8.fr (T := T) (K := [16]) ⟨h1, hx, hW⟩ c t8 ts (fr_wI fr_refl tna rfl) rfl
  · rcases h6 with ⟨b1, b2, b3⟩ | ⟨b1, -⟩
    · rw [b3]
      refine pw_nu (fun e => by cases e) (fun q e => ?_)
      have eq := Option.some.inj e
      subst eq
      have hj : q4.1.toInt.toNat < n := by omega
      generalize q4.1.toInt.toNat = j at hj a3
      obtain ⟨ho, hv, hz⟩ := hx.1 j hj
      obtain ⟨tx, tA, tB, tL⟩ := ho.tp c (tP j hj)
      have h8 : ∀ {R : mm_M} {u : Nat → Int32}, q_S8 st pl (fun i => (Q i).1) R n g → (∀ f, f < 100 → u f = g j f) → q_S8 st pl (fun i => (Q i).1) R n (q_app g j u) := fun hR hu => hR.cg fun i f hi f1 f2 => by
        unfold q_app
        by_cases e : i = j
        · rw [if_pos e, e]; exact (hu f (by omega)).symm
        · rw [if_neg e]
      refine pw_ite (fun d => pw_sh fun _ => ?_) (fun d => pw_sh fun _ => pw_sh fun _ => ?_)
      · obtain ⟨va, e5, tva⟩ := ci_ref c t8 5 (κ' := 15) rfl
        refine pw_onP (fun y e => And.intro ((sX8_takeLinks c t8 (tP j hj)).p y e) (rX8_links c t8 (tP j hj) ho hv hb e5 y e)) fun s2 hh => pw_some ?_
        obtain ⟨⟨c2, f2, -⟩, o, v⟩ := hh
        have hu : ∀ f, f < 100 → (if vl (rdA σ o8 3 2) = 0 then lnk m (fun i => vl (rdA σ o8 3 i)) (g j) else g j) f = g j f := fun f hf => by
          split
          · unfold lnk; rw [if_neg (by omega)]
          · rfl
        have hzz : txz (if vl (rdA σ o8 3 2) = 0 then lnk m (fun i => vl (rdA σ o8 3 i)) (g j) else g j) := by
          split
          · exact lnk_z hz
          · exact hz
        refine ⟨n, q_rwx g j m r (fun j => rdA σ o8 3 j), Q, ?_, Or.inr (Or.inr (Or.inr ⟨hr0, hr.2, j, hj, a3, rfl, rfl, rfl, funext fun k => rdA_fr f2 c t8 (κ' := 16) rfl rfl rfl⟩))⟩
        unfold q_rwx
        rw [if_pos d]
        refine ⟨h8 (h1.fr c ts f2 rfl rfl rfl) hu, hx.oau (j := j) o (fun i hi hij => ?_) ⟨fun r hr => ?_, fun i hi => ?_, v⟩ hzz, hW.keep o⟩
        · obtain ⟨ux, uA, uB, uL⟩ := (hx.1 i hi).1.tp c (tP i hi)
          obtain ⟨d1, d2, d3⟩ := hx.2.1 i j hi hj hij
          simp only [List.mem_cons, List.not_mem_nil, or_false, not_or]
          exact ⟨⟨q_nek uA tva (by decide), q_nek uA tL (by decide)⟩, ⟨q_nek uB tva (by decide), q_nek uB tL (by decide)⟩, ⟨q_nek uL tva (by decide), d3⟩⟩
        · rw [o.1 _ (by simp; exact ⟨q_nek tB tva (by decide), q_nek tB tL (by decide)⟩), hv.1 r hr]
          split
          · unfold lnk; rw [if_neg (by omega)]
          · rfl
        · rw [o.1 _ (by simp; exact ⟨q_nek tA tva (by decide), q_nek tA tL (by decide)⟩), hv.2.1 i hi]
          split
          · unfold lnk; rw [if_neg (by omega)]
          · rfl
      · obtain ⟨ta, eta, tta⟩ := ci_ref c t8 3 (κ' := 13) rfl
        have hr24 : r.toInt ≤ 24 := by have := hr.2.resolve_right d; rw [zi_le] at this; exact this
        refine pw_onS eta (pw_onS ho.1 (pw_sh fun _ => pw_onP (fun y e => And.intro ((sX4_fill (p1 := r) (p2 := 0) (p4 := 2) c tx tta (by decide) (by decide)).p y e) (lX4_fill (t := rdA σ o8 3) (r := r.toInt.toNat) (s := 0) (f := 2) (q_nek tA tB (by decide)) (q_nek tta tA (by decide)) (q_nek tta tB (by decide)) (by omega) (by omega) rfl (by omega) rfl (by omega) (by omega) ho.2.1 ho.2.2.1 (ci_sh c tta rfl) (fun j => (rdA_eq eta).symm) y e)) fun s2 hh => pw_some ?_))
        obtain ⟨⟨c2, f2, -⟩, o, vB, vA⟩ := hh
        generalize hrr : r.toInt.toNat = rr at vB vA
        have hr25 : rr < 25 := by omega
        refine ⟨n, q_rwx g j m r (fun j => rdA σ o8 3 j), Q, ?_, Or.inr (Or.inr (Or.inr ⟨hr0, hr.2, j, hj, a3, rfl, rfl, rfl, funext fun k => rdA_fr f2 c t8 (κ' := 16) rfl rfl rfl⟩))⟩
        unfold q_rwx
        rw [if_neg d, hrr]
        refine ⟨h8 (h1.fr c ts f2 rfl rfl rfl) (fun f hf => ?_), hx.oau (j := j) o (fun i hi hij => ?_) ⟨fun r' hr' => ?_, fun i hi => ?_, fun i hi => ?_⟩ (fil_z hz hr25), hW.keep o⟩
        · unfold fil; rw [if_neg (by omega), if_neg (by omega)]
        · obtain ⟨ux, uA, uB, uL⟩ := (hx.1 i hi).1.tp c (tP i hi)
          obtain ⟨d1, d2, d3⟩ := hx.2.1 i j hi hj hij
          simp only [List.mem_cons, List.not_mem_nil, or_false, not_or]
          exact ⟨⟨d1, q_nek uA tB (by decide)⟩, ⟨q_nek uB tA (by decide), d2⟩, ⟨q_nek uL tA (by decide), q_nek uL tB (by decide)⟩⟩
        · rw [vB r', hv.1 r' hr']
          unfold fil
          by_cases e : r' = rr
          · rw [if_pos e, if_pos (by omega)]
          · rw [if_neg e, if_neg (by omega), if_neg (by omega)]
        · rw [vA i, hv.1 rr hr25, hv.2.1 i hi]
          unfold fil
          rw [if_neg (c := 1000 + i = 100 + rr) (by omega)]
          by_cases e : 40 * rr ≤ i ∧ i < 40 * rr + 40
          · rw [if_pos e, if_pos (c := 1000 + 40 * rr ≤ 1000 + i ∧ 1000 + i < 1000 + 40 * rr + 40) (by omega), show 1000 + i - (1000 + 40 * rr) = i - 40 * rr by omega]
          · rw [if_neg e, if_neg (by omega)]
        · rw [o.1 _ (by simp; exact ⟨q_nek tL tA (by decide), q_nek tL tB (by decide)⟩), hv.2.2 i hi]
          unfold fil
          rw [if_neg (by omega), if_neg (by omega)]
    · exact absurd ⟨a1, a2⟩ b1
theorem rX8_takeRow (h : r_S8 o8 st pl Q W σ n g) (e7 : mm_R σ o8 7 = some st) (c : sCI T σ) (t8 : T o8 = some 8) (ts : T st = some 6) (hp : pnd σ o8) (hu : q_ou n g) (hb : ∀ j, rdA σ o8 3 j &&& 255 = rdA σ o8 3 j) {m r : Int32} (hr : 0 ≤ r.toInt) : pw (fX8_takeRow o8 m r σ) (fun R => ∃ n' g' Q', r_S8 o8 st pl Q' W R n' g' ∧ q_row2 n g (fun i => (Q i).1) (fun k => rdA σ o8 6 k) m r (fun j => vl (rdA σ o8 3 (2 + j))) (fun j => rdA σ o8 3 j) n' g' (fun i => (Q' i).1) (fun k => rdA R o8 6 k)) := by
  unfold fX8_takeRow
  refine pw_ite (fun a => pw_sh fun _ => pw_onP (rX8_takeHeader h e7 c t8 ts hp hu hb) fun q hq => pw_some ?_) (fun a => pw_ite (fun b => rX8_takeRow_23 h e7 c t8 ts hb a ⟨hr, Or.inl b⟩) (fun b => pw_ite (fun d => rX8_takeRow_23 h e7 c t8 ts hb a ⟨hr, Or.inr d⟩) (fun d => pw_some ⟨n, g, Q, h, Or.inr (Or.inr (Or.inl ⟨a, fun h' => h'.elim b d, rfl, rfl, rfl, rfl⟩))⟩)))
  obtain ⟨n', g', Q', r1, r2⟩ := hq
  exact ⟨n', g', Q', r1, Or.inl ⟨a, r2⟩⟩
theorem rX8_pkt (h : r_S8 o8 st pl Q W σ n g) (e7 : mm_R σ o8 7 = some st) (c : sCI T σ) (t8 : T o8 = some 8) (ts : T st = some 6) (hp : pnd σ o8) (hu : q_ou n g) (hb : ∀ j, rdA σ o8 3 j &&& 255 = rdA σ o8 3 j) (hl : 42 ≤ (mm_I σ o8 4).toInt) {v0 v1 : Int32} (hv0 : vl (rdA σ o8 3 0) = v0) (hv1 : vl (rdA σ o8 3 1) = v1) : pw (fX8_packet o8 σ) (fun R => ∃ n' g' Q', r_S8 o8 st pl Q' W R.2 n' g' ∧ q_pkt2 n g (fun i => (Q i).1) (fun k => rdA σ o8 6 k) v0 v1 (fun j => vl (rdA σ o8 3 (2 + j))) (fun j => rdA σ o8 3 j) n' g' (fun i => (Q' i).1) (fun k => rdA R.2 o8 6 k)) := by
  have k : ∀ j, rdA (mm_wI σ o8 4 0) o8 3 j = rdA σ o8 3 j := fun j => rdA_k c t8 (κ' := 13) rfl t8 (by decide)
  have k6 : ∀ j, rdA (mm_wI σ o8 4 0) o8 6 j = rdA σ o8 6 j := fun j => rdA_k c t8 (κ' := 16) rfl t8 (by decide)
  have c1 := ci_wI (j := 4) (v := 0) c t8 (kr_s (lo := 0) (hi := 60) rfl (by decide))
  have f1 : sFR T [804] σ (mm_wI σ o8 4 0) := fr_wI fr_refl t8 rfl
  have h1 : r_S8 o8 st pl Q W (mm_wI σ o8 4 0) n g := h.fr c t8 ts f1 rfl
  have e71 : mm_R (mm_wI σ o8 4 0) o8 7 = some st := e7
  have hp1 : pnd (mm_wI σ o8 4 0) o8 := pnd_fr hp f1 c t8 rfl rfl rfl
  have hb1 : ∀ j, rdA (mm_wI σ o8 4 0) o8 3 j &&& 255 = rdA (mm_wI σ o8 4 0) o8 3 j := fun j => by rw [k]; exact hb j
  unfold fX8_packet
  refine pw_sh fun _ => pw_ite (fun _ => pw_let ?_) (fun h => ?_)
  · generalize mm_wI σ o8 4 0 = s1 at k k6 c1 f1 h1 e71 hp1 hb1 ⊢
    refine pw_onP (pX8_valueAt (by decide) (hb1 _)) fun q4 e4 => pw_sh fun _ => ?_
    obtain ⟨z0, s4⟩ := q4
    have es4 : s4 = s1 := congrArg Prod.snd e4
    have ez0 : z0 = v0 := (congrArg Prod.fst e4).trans ((congrArg vl (k 0)).trans hv0)
    subst es4 ez0
    refine pw_onP (pX8_valueAt (by decide) (hb1 _)) fun q6 e6 => ?_
    obtain ⟨z1, s6⟩ := q6
    have es6 : s6 = s4 := congrArg Prod.snd e6
    have ez1 : z1 = v1 := (congrArg Prod.fst e6).trans ((congrArg vl (k 1)).trans hv1)
    subst es6 ez1
    clear e4 e6
    dsimp only
    have bad : (z0 = -1 ∨ z1 = -1) → ∀ x1 x2 : Int32, pw (fX8_packet_46 o8 x1 x2 s6) (fun R => ∃ n' g' Q', r_S8 o8 st pl Q' W R.2 n' g' ∧ q_pkt2 n g (fun i => (Q i).1) (fun k => rdA σ o8 6 k) z0 z1 (fun j => vl (rdA σ o8 3 (2 + j))) (fun j => rdA σ o8 3 j) n' g' (fun i => (Q' i).1) (fun k => rdA R.2 o8 6 k)) := by
      intro hbad x1 x2
      unfold fX8_packet_46
      obtain ⟨na, ena, tna⟩ := ci_ref c1 t8 6 (κ' := 16) rfl
      refine pw_sh fun _ => pw_onS ena (pw_ar fun _ _ => pw_ib fun _ _ => pw_ib fun _ _ => pw_let (pw_some ⟨n, g, Q, ?_, Or.inl ⟨hbad, rfl, rfl, rfl, ?_⟩⟩))
      · exact r_S8.fr (T := T) (K := [16]) h1 c1 t8 ts (fr_wI fr_refl tna rfl) rfl
      · funext i
        refine Eq.trans (rdA_inc (j := 0) ena i) ?_
        simp only [q_inc, k6]
    refine pw_ite (fun a => bad (Or.inl a) _ _) (fun a => pw_ite (fun b => bad (Or.inr b) _ _) (fun b => pw_sh fun _ => ?_))
    obtain ⟨k0, e0⟩ := (vl_rg (rdA σ o8 3 0)).resolve_left (fun e => a (hv0.symm.trans e))
    obtain ⟨k1, e1⟩ := (vl_rg (rdA σ o8 3 1)).resolve_left (fun e => b (hv1.symm.trans e))
    have hrow := v_row k0 k1
    rw [← hv0.symm.trans e0, ← hv1.symm.trans e1] at hrow
    refine pw_onP (rX8_takeRow h1 e71 c1 t8 ts hp1 hu hb1 hrow) fun q16 hq => pw_some ?_
    obtain ⟨n', g', Q', r1, r2⟩ := hq
    simp only [k, k6] at r2
    exact ⟨n', g', Q', r1, Or.inr ⟨fun h' => h'.elim a b, r2⟩⟩
  · exfalso
    rw [zi_le] at h
    simp only [Int32.reduceToInt] at h
    omega
end RF
