/-! The two stores together, with rows and links -/
section UA
variable {n : Nat} {g : Nat → Nat → Int32}
theorem q_AI.cg {g' : Nat → Nat → Int32} (h : q_AI n g) (e : ∀ i f, f < 100 → g' i f = g i f) : q_AI n g' := by
  refine ⟨fun i hi => by rw [e i 2 (by omega)]; exact h.1 i hi, fun i j hi hj h1 h2 h3 => ?_, fun i j hi hj h1 h2 h3 => ?_⟩
  · rw [e i 6 (by omega)] at h1
    rw [e j 6 (by omega)] at h2
    rw [e i 2 (by omega), e j 2 (by omega)] at h3
    exact h.2.1 i j hi hj h1 h2 h3
  · rw [e i 2 (by omega), e j 2 (by omega)] at h1
    rw [e i 3 (by omega), e j 3 (by omega)] at h2
    rw [e i 4 (by omega), e j 4 (by omega)] at h3
    exact h.2.2 i j hi hj h1 h2 h3
theorem q_pkt2_AI (h : q_AI n g) {P P' : Nat → Nat} {nt nt' : Nat → Int32} {v0 v1 : Int32} {w t : Nat → Int32} {n' : Nat} {g' : Nat → Nat → Int32} (hv : q_vals v0 w) (hh : q_pkt2 n g P nt v0 v1 w t n' g' P' nt') : q_AI n' g' := by
  rcases hh with ⟨-, rfl, rfl, -, -⟩ | ⟨hb, ⟨-, ⟨-, rfl, rfl, -, -⟩ | ⟨hn, hd, -⟩⟩ | ⟨-, -, -, rfl, rfl, -, -⟩ | ⟨-, -, rfl, rfl, -, -⟩ | ⟨-, -, j, hj, ho, rfl, rfl, -, -⟩⟩
  · exact h
  · exact h
  · rcases hd with ⟨a, rfl, rfl, e⟩ | ⟨a, g2, b, rfl⟩
    · exact q_hdr_AI h (q_vmg hv (fun e => hb (Or.inl e))) (q_vsb hv hn) (Or.inl ⟨a, rfl, rfl, e⟩)
    · refine (q_hdr_AI h (q_vmg hv (fun e => hb (Or.inl e))) (q_vsb hv hn) (Or.inr ⟨a, g2, b, rfl⟩)).cg fun i f hf => ?_
      unfold q_opx
      rw [if_neg (by omega)]
  · exact h
  · exact h
  · refine h.cg fun i f hf => ?_
    unfold q_rwx q_app
    by_cases e : i = j
    · rw [if_pos e, e]
      split
      · split
        · unfold lnk; rw [if_neg (by omega)]
        · rfl
      · unfold fil; rw [if_neg (by omega), if_neg (by omega)]
    · rw [if_neg e]
theorem q_bn_u (hc : q_AI n g) {P P1 Q P2 : Nat → Nat} {m nu sb : Int32} {n1 n2 : Nat} {x1 x2 : Nat → Nat → Int32} (hsb : sb ≠ -1) (b1 : q_bn n g P m nu sb n1 x1 P1) (b2 : q_bn n g Q m nu sb n2 x2 P2) : n1 = n2 ∧ x1 = x2 := by
  rcases b1 with ⟨j, hj, hnm, rfl, rfl, -⟩ | ⟨hnm, hn, rfl, rfl, -⟩ | ⟨hnm, hn, rfl, rfl, -⟩ <;> rcases b2 with ⟨j', hj', hnm', rfl, rfl, -⟩ | ⟨hnm', hn', rfl, rfl, -⟩ | ⟨hnm', hn', rfl, rfl, -⟩
  · have : j = j' := hc.2.2 j j' hj hj' (hnm.1.trans hnm'.1.symm) (hnm.2.1.trans hnm'.2.1.symm) ((hnm.2.2.resolve_left hsb).trans (hnm'.2.2.resolve_left hsb).symm)
    subst this; exact ⟨rfl, rfl⟩
  · exact absurd hnm (hnm' j hj)
  · exact absurd hnm (hnm' j hj)
  · exact absurd hnm' (hnm j' hj')
  · exact ⟨rfl, rfl⟩
  · omega
  · exact absurd hnm' (hnm j' hj')
  · omega
  · exact ⟨rfl, rfl⟩
theorem q_hdr2_u (h : q_AI n g) {P P1 Q P2 : Nat → Nat} {b : Bool} {m : Int32} {w t : Nat → Int32} {n1 n2 : Nat} {g1 g2 : Nat → Nat → Int32} (hsb : fX8_subcodeOf (w 2) (w 3) (w 4) (w 5) ≠ -1) (h1 : q_hdr2 n g P b m w t n1 g1 P1) (h2 : q_hdr2 n g Q b m w t n2 g2 P2) : n1 = n2 ∧ g1 = g2 := by
  rcases h1 with ⟨a1, rfl, rfl, -⟩ | ⟨a1, x1, b1, rfl⟩ <;> rcases h2 with ⟨a2, rfl, rfl, -⟩ | ⟨a2, x2, b2, rfl⟩
  · exact ⟨rfl, rfl⟩
  · exact absurd a1 a2
  · exact absurd a2 a1
  · obtain ⟨rfl, rfl⟩ := q_bn_u (h.clx b m 9) hsb b1 b2
    exact ⟨rfl, rfl⟩
theorem q_pkt2_u (h : q_AI n g) {P P1 Q P2 : Nat → Nat} {nt nt1 nt2 : Nat → Int32} {v0 v1 : Int32} {w t : Nat → Int32} {n1 n2 : Nat} {g1 g2 : Nat → Nat → Int32} (hv : q_vals v0 w) (h1 : q_pkt2 n g P nt v0 v1 w t n1 g1 P1 nt1) (h2 : q_pkt2 n g Q nt v0 v1 w t n2 g2 P2 nt2) : n1 = n2 ∧ g1 = g2 ∧ nt1 = nt2 := by
  rcases h1 with ⟨a1, rfl, rfl, -, rfl⟩ | ⟨a1, b1⟩ <;> rcases h2 with ⟨a2, rfl, rfl, -, rfl⟩ | ⟨a2, b2⟩
  · exact ⟨rfl, rfl, rfl⟩
  · exact absurd a1 a2
  · exact absurd a2 a1
  · rcases b1 with ⟨z1, c1⟩ | ⟨z1, y1, x1, rfl, rfl, -, rfl⟩ | ⟨z1, y1, rfl, rfl, -, rfl⟩ | ⟨z1, y1, j1, hj1, o1, rfl, rfl, -, rfl⟩ <;> rcases b2 with ⟨z2, c2⟩ | ⟨z2, y2, x2, rfl, rfl, -, rfl⟩ | ⟨z2, y2, rfl, rfl, -, rfl⟩ | ⟨z2, y2, j2, hj2, o2, rfl, rfl, -, rfl⟩
    · rcases c1 with ⟨⟨j, hj, ej⟩, rfl, rfl, -, rfl⟩ | ⟨d1, e1, rfl⟩ <;> rcases c2 with ⟨⟨j', hj', ej'⟩, rfl, rfl, -, rfl⟩ | ⟨d2, e2, rfl⟩
      · exact ⟨rfl, rfl, rfl⟩
      · exact absurd ej (d2 j hj)
      · exact absurd ej' (d1 j' hj')
      · obtain ⟨r1, r2⟩ := q_hdr2_u h (q_vsb hv d1) e1 e2
        exact ⟨r1, r2, rfl⟩
    · exact absurd z1 z2
    · exact absurd z1 z2
    · exact absurd z1 z2
    · exact absurd z2 z1
    · exact ⟨rfl, rfl, rfl⟩
    · exact absurd y1 y2
    · exact absurd o2 (x1 j2 hj2)
    · exact absurd z2 z1
    · exact absurd y2 y1
    · exact ⟨rfl, rfl, rfl⟩
    · exact absurd y2 y1
    · exact absurd z2 z1
    · exact absurd o1 (x2 j1 hj1)
    · exact absurd y1 y2
    · have : j1 = j2 := h.2.1 j1 j2 hj1 hj2 o1.1 o2.1 (o1.2.trans o2.2.symm)
      subst this
      exact ⟨rfl, rfl, rfl⟩
end UA
def rsR (o8 o9 : Nat) (σ : mm_M) : Prop := ∃ (n : Nat) (g : Nat → Nat → Int32), q_AI n g ∧ (∃ st pl Q W, mm_R σ o8 7 = some st ∧ r_S8 o8 st pl Q W σ n g) ∧ (∃ s, r_S9 o9 s σ n g) ∧ ∀ k, rdA σ o8 6 k = rdA σ o9 13 k
def r_ok (K : List Nat) : Bool := q_ok K && K.all (fun x => !(3 ≤ x && x ≤ 4) && !(6 ≤ x && x ≤ 7) && !(22 ≤ x && x ≤ 25) && !(x == 808)) && K.all (fun x => !(73 ≤ x && x ≤ 76) && !(923 ≤ x && x ≤ 926))
section UB
variable {T : Nat → Option Nat} {σ : mm_M} {o8 o9 : Nat}
theorem r_okc {K : List Nat} (h : r_ok K = true) : q_ok K = true ∧ K.all (fun x => !(3 ≤ x && x ≤ 4) && !(6 ≤ x && x ≤ 7) && !(22 ≤ x && x ≤ 25) && !(x == 808)) = true ∧ K.all (fun x => !(73 ≤ x && x ≤ 76) && !(923 ≤ x && x ≤ 926)) = true := by
  unfold r_ok at h
  simp only [Bool.and_eq_true] at h
  exact ⟨h.1.1, h.1.2, h.2⟩
theorem r_8fr {K : List Nat} {σ' : mm_M} {n : Nat} {g : Nat → Nat → Int32} (c : sCI T σ) (t8 : T o8 = some 8) (f : sFR T K σ σ') (h7 : K.contains 807 = false) (hK : K.all (fun x => !(3 ≤ x && x ≤ 4) && !(6 ≤ x && x ≤ 7) && !(22 ≤ x && x ≤ 25) && !(x == 808)) = true) (h : ∃ st pl Q W, mm_R σ o8 7 = some st ∧ r_S8 o8 st pl Q W σ n g) : ∃ st pl Q W, mm_R σ' o8 7 = some st ∧ r_S8 o8 st pl Q W σ' n g := by
  obtain ⟨st, pl, Q, W, e7, h⟩ := h
  obtain ⟨q, e, tq⟩ := ci_ref c t8 7 (κ' := 6) rfl
  have : q = st := Option.some.inj (e.symm.trans e7)
  subst this
  exact ⟨q, pl, Q, W, (f.2.2 o8 8 t8 7 h7).2.trans e7, h.fr c t8 tq f hK⟩
theorem r_8cg {τ ρ : mm_M} {n : Nat} {g : Nat → Nat → Int32} (hI : ∀ a k, mm_I τ a k = mm_I ρ a k) (hR : ∀ a k, mm_R τ a k = mm_R ρ a k) (h : ∃ st pl Q W, mm_R ρ o8 7 = some st ∧ r_S8 o8 st pl Q W ρ n g) : ∃ st pl Q W, mm_R τ o8 7 = some st ∧ r_S8 o8 st pl Q W τ n g := by
  obtain ⟨st, pl, Q, W, e7, h, hx, hW⟩ := h
  exact ⟨st, pl, Q, W, (hR _ _).trans e7, h.same (hR _ _) (hI _ _) (fun i _ => hR _ _) (fun i _ f => hI _ _), hx.same (fun i _ => ⟨fun _ => hR _ _, fun _ => hR _ _⟩) (fun i _ => ⟨fun _ => hI _ _, fun _ => hI _ _, fun _ => hI _ _⟩), (hR _ _).trans hW.1, (hR _ _).trans hW.2.1, (hR _ _).trans hW.2.2.1, (hR _ _).trans hW.2.2.2⟩
theorem r_9cg {τ ρ : mm_M} {n : Nat} {s : Nat → Nat} {g : Nat → Nat → Int32} (hI : ∀ a k, mm_I τ a k = mm_I ρ a k) (hR : ∀ a k, mm_R τ a k = mm_R ρ a k) (h : r_S9 o9 s ρ n g) : r_S9 o9 s τ n g :=
  ⟨q_9cg hI hR h.1, fun i hi => (h.2 i hi).sag (sag_of fun j i _ => rdA_congr hI hR o9 j i)⟩
theorem rs_keep {T' : Nat → Option Nat} {K8 K9 : List Nat} {τ ρ ω : mm_M} (c : sCI T σ) (t8 : T o8 = some 8) (t9 : T o9 = some 9) (hr : rsR o8 o9 σ) (f8 : sFR T K8 σ ρ) (c' : sCI T' τ) (t8' : T' o8 = some 8) (t9' : T' o9 = some 9) (hI : ∀ a k, mm_I τ a k = mm_I ρ a k) (hR : ∀ a k, mm_R τ a k = mm_R ρ a k) (f9 : sFR T' K9 τ ω) (h8 : r_ok K8 = true) (h9 : r_ok K9 = true) : rsR o8 o9 ω := by
  obtain ⟨n, g, ai, s8, ⟨s, s9⟩, hn⟩ := hr
  obtain ⟨a1, a2, a3⟩ := r_okc h8
  obtain ⟨b1, b2, b3⟩ := r_okc h9
  refine ⟨n, g, ai, r_8fr c' t8' f9 (q_okc b1 rfl) b2 (r_8cg hI hR (r_8fr c t8 f8 (q_okc a1 rfl) a2 s8)), ⟨s, r_S9.fr (r_9cg hI hR (s9.fr f8 c t9 (q_okf a1) a3)) f9 c' t9' (q_okf b1) b3⟩, fun k => ?_⟩
  rw [rdA_fr f9 c' t8' (k := 6) (κ' := 16) rfl (q_okc b1 rfl) (q_okc b1 rfl), rdA_congr hI hR, rdA_fr f8 c t8 (k := 6) (κ' := 16) rfl (q_okc a1 rfl) (q_okc a1 rfl), rdA_fr f9 c' t9' (k := 13) (κ' := 63) rfl (q_okc b1 rfl) (q_okc b1 rfl), rdA_congr hI hR, rdA_fr f8 c t9 (k := 13) (κ' := 63) rfl (q_okc a1 rfl) (q_okc a1 rfl)]
  exact hn k
theorem rs_0 {out : Nat} (F : lx_Fr T o8 o9 out σ) : rsR o8 o9 σ := by
  obtain ⟨c, fv, t8, t9, -⟩ := F
  obtain ⟨st, e1, u1⟩ := ci_ref c t8 7 (κ' := 6) rfl
  obtain ⟨pl, e2, u2⟩ := ci_ref c u1 0 (κ' := 25) rfl
  obtain ⟨na, e3, u3⟩ := ci_ref c t8 6 (κ' := 16) rfl
  obtain ⟨nb, e4, u4⟩ := ci_ref c t9 13 (κ' := 63) rfl
  obtain ⟨oa, e5, u5⟩ := ci_ref c t9 27 (κ' := 77) rfl
  obtain ⟨w1, f1, v1⟩ := ci_ref c t8 8 (κ' := 7) rfl
  obtain ⟨w2, f2, v2⟩ := ci_ref c v1 0 (κ' := 4) rfl
  obtain ⟨w3, f3, v3⟩ := ci_ref c v2 0 (κ' := 22) rfl
  obtain ⟨w4, f4, v4⟩ := ci_ref c v2 1 (κ' := 23) rfl
  have h1 : mm_I σ st 1 = 0 := fv st 6 1 u1
  have h2 : mm_I σ o9 14 = 0 := fv o9 9 14 t9
  refine ⟨0, fun _ _ => 0, ⟨fun i hi => absurd hi (Nat.not_lt_zero _), fun i j hi => absurd hi (Nat.not_lt_zero _), fun i j hi => absurd hi (Nat.not_lt_zero _)⟩, ⟨st, pl, fun _ => (0, 0, 0, 0, 0), (w1, w2, w3, w4), e1, ⟨e2, by rw [h1]; rfl, by omega, fun i hi => absurd hi (Nat.not_lt_zero _), fun i hi => absurd hi (Nat.not_lt_zero _), fun i j hi => absurd hi (Nat.not_lt_zero _)⟩, ⟨fun i hi => absurd hi (Nat.not_lt_zero _), fun i j hi => absurd hi (Nat.not_lt_zero _), fun i hi => absurd hi (Nat.not_lt_zero _)⟩, f1, f2, f3, f4⟩, ⟨fun _ => 0, ⟨by rw [h2]; rfl, by omega, fun i hi => absurd hi (Nat.not_lt_zero _), fun i j hi => absurd hi (Nat.not_lt_zero _), fun x x1 x2 => Or.inr ⟨?_, fun i hi => absurd hi (Nat.not_lt_zero _)⟩⟩, fun i hi => absurd hi (Nat.not_lt_zero _)⟩, fun k => ?_⟩
  · show rdA σ o9 27 x.toInt.toNat = -1
    rw [rdA_eq e5]
    exact fv oa 77 _ u5 (by omega)
  · have a1 : mm_I σ na k = 0 := fv na 16 k u3
    have a2 : mm_I σ nb k = 0 := fv nb 63 k u4
    rw [rdA_eq e3, rdA_eq e4, a1, a2]
def rs8P (o8 : Nat) (σ : mm_M) (R : Option Int32 × mm_M) : Prop := ((mm_I σ o8 4).toInt < 42 → R.2 = σ) ∧ (42 ≤ (mm_I σ o8 4).toInt → ∀ n g, q_AI n g → (∃ st pl Q W, mm_R σ o8 7 = some st ∧ r_S8 o8 st pl Q W σ n g) → ∃ n' g' P P', (∃ st pl Q W, mm_R R.2 o8 7 = some st ∧ r_S8 o8 st pl Q W R.2 n' g') ∧ q_pkt2 n g P (fun k => rdA σ o8 6 k) (vl (rdA σ o8 3 0)) (vl (rdA σ o8 3 1)) (fun j => vl (rdA σ o8 3 (2 + j))) (fun j => rdA σ o8 3 j) n' g' P' (fun k => rdA R.2 o8 6 k))
def rs9P (o9 : Nat) (σ : mm_M) (R : Int32 × mm_M) : Prop := ∀ n g s, q_AI n g → r_S9 o9 s σ n g → ((mm_I σ o9 12).toInt < 42 → r_S9 o9 s R.2 n g ∧ ∀ k, rdA R.2 o9 13 k = rdA σ o9 13 k) ∧ (42 ≤ (mm_I σ o9 12).toInt → ∃ n' g' s', r_S9 o9 s' R.2 n' g' ∧ q_pkt2 n g s (fun k => rdA σ o9 13 k) (vl (rdA σ o9 11 0)) (vl (rdA σ o9 11 1)) (fun j => vl (rdA σ o9 11 (2 + j))) (fun j => rdA σ o9 11 j &&& 255) n' g' s' (fun k => rdA R.2 o9 13 k))
theorem rs_packet8 (c : sCI T σ) (t8 : T o8 = some 8) (hp : pnd σ o8) (hb : ∀ j, rdA σ o8 3 j &&& 255 = rdA σ o8 3 j) : sw (fX8_packet o8 σ) (fun R => ∃ T', sTX T T' ∧ sCI T' R.2 ∧ sFR T KX8_packet σ R.2 ∧ pnd R.2 o8 ∧ tpP o8 σ R ∧ rs8P o8 σ R) := by
  obtain ⟨R, e, T', tx, c', f, p, x⟩ := tp_packet8 c t8 hp hb
  refine ⟨R, e, T', tx, c', f, p, x, fun hl => ?_, fun hl n g ai h8 => ?_⟩
  · rw [pX8_packet0 hl R e]
  · obtain ⟨st, pl, Q, W, e7, h8⟩ := h8
    obtain ⟨q, eq, tq⟩ := ci_ref c t8 7 (κ' := 6) rfl
    have : q = st := Option.some.inj (eq.symm.trans e7)
    subst this
    obtain ⟨n', g', Q', r1, r2⟩ := rX8_pkt h8 e7 c t8 tq hp ai.2.1 hb hl rfl rfl R e
    exact ⟨n', g', _, _, ⟨q, pl, Q', W, (f.2.2 o8 8 t8 7 rfl).2.trans e7, r1⟩, r2⟩
theorem rs_packet9 (c : sCI T σ) (t9 : T o9 = some 9) (hu : uc σ o9 ≤ (mm_I σ o9 14).toInt) : sw (fX9_packet o9 σ) (fun R => sCI T R.2 ∧ sFR T KX9_packet σ R.2 ∧ uc R.2 o9 ≤ (mm_I R.2 o9 14).toInt ∧ tpQ o9 σ R ∧ rs9P o9 σ R) := by
  obtain ⟨R, e, c', f, p, x⟩ := tp_packet9 c t9 hu
  refine ⟨R, e, c', f, p, x, fun n g s ai h9 => ⟨fun hl => ?_, fun hl => ?_⟩⟩
  · have f0 := pX9_packet0 c t9 hl R e
    exact ⟨h9.fr f0 c t9 rfl rfl, fun k => rdA_fr f0 c t9 (κ' := 63) rfl rfl rfl⟩
  · exact rX9_pkt h9 c t9 ai.2.1 hu ai.1 hl rfl rfl R e
theorem rs_packed {T' : Nat → Option Nat} {τ : mm_M} {R8 : Option Int32 × mm_M} {R9 : Int32 × mm_M} (c : sCI T σ) (t8 : T o8 = some 8) (t9 : T o9 = some 9) (hr : tpR o8 o9 σ) (hs : rsR o8 o9 σ) (f8 : sFR T KX8_packet σ R8.2) (c' : sCI T' τ) (t8' : T' o8 = some 8) (t9' : T' o9 = some 9) (hI : ∀ a k, mm_I τ a k = mm_I R8.2 a k) (hR : ∀ a k, mm_R τ a k = mm_R R8.2 a k) (f9 : sFR T' KX9_packet τ R9.2) (x8 : rs8P o8 σ R8) (x9 : rs9P o9 τ R9) : rsR o8 o9 R9.2 := by
  obtain ⟨n, g, ai, s8, ⟨s, s9⟩, hn⟩ := hs
  have k11 : ∀ j, rdA τ o9 11 j = rdA σ o9 11 j := fun j => (rdA_congr hI hR o9 11 j).trans (rdA_fr f8 c t9 (κ' := 61) rfl rfl rfl)
  have k13 : ∀ j, rdA τ o9 13 j = rdA σ o9 13 j := fun j => (rdA_congr hI hR o9 13 j).trans (rdA_fr f8 c t9 (κ' := 63) rfl rfl rfl)
  have k12 : mm_I τ o9 12 = mm_I σ o9 12 := (hI o9 12).trans (f8.2.2 o9 9 t9 12 rfl).1
  have s9' : r_S9 o9 s τ n g := r_9cg hI hR (s9.fr f8 c t9 rfl rfl)
  have x9' := x9 n g s ai s9'
  rw [k12, ← hr.1] at x9'
  have f8' : ∀ {n' g'}, (∃ st pl Q W, mm_R R8.2 o8 7 = some st ∧ r_S8 o8 st pl Q W R8.2 n' g') → ∃ st pl Q W, mm_R R9.2 o8 7 = some st ∧ r_S8 o8 st pl Q W R9.2 n' g' := fun h => r_8fr c' t8' f9 rfl rfl (r_8cg hI hR h)
  have k6 : ∀ k, rdA R9.2 o8 6 k = rdA R8.2 o8 6 k := fun k => (rdA_fr f9 c' t8' (κ' := 16) rfl rfl rfl).trans (rdA_congr hI hR o8 6 k)
  by_cases hl : (mm_I σ o8 4).toInt < 42
  · have e8 := x8.1 hl
    obtain ⟨y1, y2⟩ := x9'.1 hl
    rw [e8] at k6 f8'
    exact ⟨n, g, ai, f8' s8, ⟨s, y1⟩, fun k => by rw [k6, y2, k13]; exact hn k⟩
  · obtain ⟨n1, g1, P, P1, z1, z2⟩ := x8.2 (by omega) n g ai s8
    obtain ⟨n2, g2, s2, y1, y2⟩ := x9'.2 (by omega)
    have hvals : q_vals (vl (rdA σ o8 3 0)) (fun j => vl (rdA σ o8 3 (2 + j))) := ⟨vl_rg _, fun j => vl_rg _⟩
    have e0 : ∀ j, vl (rdA τ o9 11 j) = vl (rdA σ o8 3 j) := fun j => by rw [k11, hr.2 j, vl_255]
    have ew : (fun j => vl (rdA τ o9 11 (2 + j))) = fun j => vl (rdA σ o8 3 (2 + j)) := funext fun j => e0 (2 + j)
    have et : (fun j => rdA τ o9 11 j &&& 255) = fun j => rdA σ o8 3 j := funext fun j => by rw [k11, hr.2 j]
    have en : (fun k => rdA τ o9 13 k) = fun k => rdA σ o8 6 k := funext fun k => by rw [k13, hn]
    rw [e0 0, e0 1, ew, et, en] at y2
    obtain ⟨u1, u2, u3⟩ := q_pkt2_u ai hvals z2 y2
    subst u1 u2
    refine ⟨n1, g1, q_pkt2_AI ai hvals z2, f8' z1, ⟨s2, y1⟩, fun k => ?_⟩
    rw [k6]
    exact congrFun u3 k
/-- watch: the watched page's rows alone are erased -/
theorem ow_setSigns {x A : Nat} {y cn sg : Int32} : ∀ (u : Nat) (z : Int32) (σ : mm_M), mm_R σ x 0 = some A → pw (fX4_setSigns_3 u x y cn sg z σ) (fun R => oa [A] σ R) := by
  intro u
  induction u with
  | zero => intros; exact pw_none
  | succ u ih =>
    intro z σ e
    unfold fX4_setSigns_3
    refine pw_ite (fun _ => pw_some oa_r) (fun _ => pw_ite (fun _ => pw_some oa_r) (fun _ => pw_sh fun _ => pw_onS e (pw_ar fun _ _ => pw_ib fun _ _ => pw_let ?_)))
    exact (ih (z + 1) (mm_wI σ A ((y * 40) + z).toNatClampNeg sg) e).mono (fun R hR => oa_t (oa_w (by simp)) hR)
theorem ow_eraseRows {x A B : Nat} {x1 : Int32} : ∀ (u : Nat) (y : Int32) (σ : mm_M), mm_R σ x 0 = some A → mm_R σ x 1 = some B → pw (fX4_eraseRows_6 u x x1 y σ) (fun R => oa [A, B] σ R) := by
  intro u
  induction u with
  | zero => intros; exact pw_none
  | succ u ih =>
    intro y σ e0 e1
    unfold fX4_eraseRows_6
    refine pw_ite (fun _ => pw_some oa_r) (fun _ => pw_sh fun _ => pw_onS e1 (pw_ar fun _ _ => pw_ib fun _ _ => pw_ite (fun _ => ih _ _ e0 e1) (fun _ => ?_)))
    refine pw_onP (show pw (fX4_setSigns x y 40 0 σ) _ from ow_setSigns _ _ _ e0) fun s2 o2 => pw_sh fun _ => pw_onS ((o2.2.1 _ _).trans e1) (pw_ar fun _ _ => pw_ib fun _ _ => pw_let ?_)
    have w : oa [A, B] σ (mm_wI s2 B y.toNatClampNeg (vp_nar .boolean 0)) := oa_t (oa_m o2 (by simp)) (oa_w (by simp))
    exact (ih (y + 1) _ ((w.2.1 _ _).trans e0) ((w.2.1 _ _).trans e1)).mono (fun R hR => oa_t w hR)
theorem rs_watch8 {p1 p2 : Int32} (c : sCI T σ) (t8 : T o8 = some 8) : pw (fX8_watch o8 p1 p2 σ) (fun R => ∀ n g, (∃ st pl Q W, mm_R σ o8 7 = some st ∧ r_S8 o8 st pl Q W σ n g) → ∃ st pl Q W, mm_R R.2 o8 7 = some st ∧ r_S8 o8 st pl Q W R.2 n g) := by
  intro R eR n g h8
  obtain ⟨st, pl, Q, W, e7, h, hx, hW⟩ := h8
  obtain ⟨q, eq, ts⟩ := ci_ref c t8 7 (κ' := 6) rfl
  have : q = st := Option.some.inj (eq.symm.trans e7)
  subst this
  obtain ⟨tw, twx, twa, twb⟩ := hW.tp c t8
  obtain ⟨tpl, tP⟩ := h.tp c ts
  have o : oa [W.1, W.2.2.1, W.2.2.2] σ R.2 := by
    refine (show pw (fX8_watch o8 p1 p2 σ) (fun R => oa [W.1, W.2.2.1, W.2.2.2] σ R.2) from ?_) R eR
    unfold fX8_watch fX7_begin
    refine pw_ite (fun _ => pw_ite (fun _ => pw_sh fun _ => pw_onS hW.1 (pw_sh fun _ => ?_)) (fun _ => pw_some oa_r)) (fun _ => pw_some oa_r)
    refine pw_onP (P := fun R => oa [W.1, W.2.2.1, W.2.2.2] σ R) ?_ fun s2 o2 => pw_some o2
    refine pw_sh fun _ => pw_let (pw_let ?_)
    have w : oa [W.1, W.2.2.1, W.2.2.2] σ (mm_wI (mm_wI σ W.1 1 p1) W.1 2 p2) := oa_t (oa_w (by simp)) (oa_w (by simp))
    have hW2 := hW.keep w
    refine pw_onS hW2.2.1 (pw_sh fun _ => pw_onP (show pw (fX4_eraseRows W.2.1 0 (mm_wI (mm_wI σ W.1 1 p1) W.1 2 p2)) _ from ow_eraseRows _ _ _ hW2.2.2.1 hW2.2.2.2) fun s2 o2 => pw_some (oa_t w (oa_m o2 (by simp))))
  refine ⟨q, pl, Q, W, (o.2.1 _ _).trans e7, h.same (o.2.1 _ _) (o.1 _ (by simp; exact ⟨q_nek ts tw (by decide), q_nek ts twa (by decide), q_nek ts twb (by decide)⟩) 1) (fun i _ => o.2.1 _ _) (fun i hi f => o.1 _ (by simp; exact ⟨q_nek (tP i hi) tw (by decide), q_nek (tP i hi) twa (by decide), q_nek (tP i hi) twb (by decide)⟩) f), hx.keep o (fun i hi => ?_), hW.keep o⟩
  obtain ⟨ux, uA, uB, uL⟩ := (hx.1 i hi).1.tp c (tP i hi)
  obtain ⟨d1, d2⟩ := hx.2.2 i hi
  simp only [List.mem_cons, List.not_mem_nil, or_false, not_or]
  exact ⟨⟨q_nek uA tw (by decide), d1, q_nek uA twb (by decide)⟩, ⟨q_nek uB tw (by decide), q_nek uB twa (by decide), d2⟩, ⟨q_nek uL tw (by decide), q_nek uL twa (by decide), q_nek uL twb (by decide)⟩⟩
theorem rs_watched {T' : Nat → Option Nat} {K9 : List Nat} {τ ρ ω : mm_M} (c : sCI T σ) (t8 : T o8 = some 8) (t9 : T o9 = some 9) (hr : rsR o8 o9 σ) (f8 : sFR T KX8_watch σ ρ) (x8 : ∀ n g, (∃ st pl Q W, mm_R σ o8 7 = some st ∧ r_S8 o8 st pl Q W σ n g) → ∃ st pl Q W, mm_R ρ o8 7 = some st ∧ r_S8 o8 st pl Q W ρ n g) (c' : sCI T' τ) (t8' : T' o8 = some 8) (t9' : T' o9 = some 9) (hI : ∀ a k, mm_I τ a k = mm_I ρ a k) (hR : ∀ a k, mm_R τ a k = mm_R ρ a k) (f9 : sFR T' K9 τ ω) (h9 : r_ok K9 = true) : rsR o8 o9 ω := by
  obtain ⟨n, g, ai, s8, ⟨s, s9⟩, hn⟩ := hr
  obtain ⟨b1, b2, b3⟩ := r_okc h9
  refine ⟨n, g, ai, r_8fr c' t8' f9 (q_okc b1 rfl) b2 (r_8cg hI hR (x8 n g s8)), ⟨s, r_S9.fr (r_9cg hI hR (s9.fr f8 c t9 rfl rfl)) f9 c' t9' (q_okf b1) b3⟩, fun k => ?_⟩
  rw [rdA_fr f9 c' t8' (k := 6) (κ' := 16) rfl (q_okc b1 rfl) (q_okc b1 rfl), rdA_congr hI hR, rdA_fr f8 c t8 (k := 6) (κ' := 16) rfl rfl rfl, rdA_fr f9 c' t9' (k := 13) (κ' := 63) rfl (q_okc b1 rfl) (q_okc b1 rfl), rdA_congr hI hR, rdA_fr f8 c t9 (k := 13) (κ' := 63) rfl rfl rfl]
  exact hn k
end UB
/-! sign and link: both stores answer alike -/
section ST42
variable {T : Nat → Option Nat} {σ : mm_M} {o8 o9 : Nat}
theorem st_sign8 {n : Nat} {g : Nat → Nat → Int32} {p y z : Int32} (h : ∃ st pl Q W, mm_R σ o8 7 = some st ∧ r_S8 o8 st pl Q W σ n g) : pw (fX8_sign o8 p y z σ) (fun R => ((0 ≤ p.toInt ∧ p.toInt < n ∧ 0 ≤ y.toInt ∧ y.toInt ≤ 24 ∧ 0 ≤ z.toInt ∧ z.toInt ≤ 39) ∧ oi R.1 = (g p.toInt.toNat (1000 + (40 * y.toInt.toNat + z.toInt.toNat))).toInt) ∨ (¬ (0 ≤ p.toInt ∧ p.toInt < n ∧ 0 ≤ y.toInt ∧ y.toInt ≤ 24 ∧ 0 ≤ z.toInt ∧ z.toInt ≤ 39) ∧ oi R.1 = -9999999999)) := by
  obtain ⟨st, pl, Q, W, e7, h, hx, -⟩ := h
  unfold fX8_sign
  have ho : fX8_isOutside y 25 = 0 ↔ 0 ≤ y.toInt ∧ y.toInt ≤ 24 := by rw [zp.1, show (25 : Int32).toInt = 25 from rfl]; omega
  have ho2 : fX8_isOutside z 40 = 0 ↔ 0 ≤ z.toInt ∧ z.toInt ≤ 39 := by rw [zp.1, show (40 : Int32).toInt = 40 from rfl]; omega
  refine pw_sh fun _ => pw_onS e7 (pw_sh fun _ => pw_onP (pX6_pageAt h p) fun q hq => ?_)
  obtain ⟨e2, hq⟩ := hq
  rw [e2]
  rcases hq with ⟨a1, a2, a3⟩ | ⟨a1, a3⟩
  · rw [a3]
    refine pw_nu (fun e => by cases e) (fun q' e => ?_)
    have eq := Option.some.inj e
    subst eq
    have hp : p.toInt.toNat < n := by omega
    obtain ⟨⟨r1, r2, -, -⟩, ⟨-, v2, -⟩, -⟩ := hx.1 p.toInt.toNat hp
    refine pw_ite (fun a => pw_ite (fun b => ?_) (fun b => pw_some (Or.inr ⟨fun h => b (ho2.mpr h.2.2.2.2), oi_none rfl⟩))) (fun a => pw_some (Or.inr ⟨fun h => a (ho.mpr ⟨h.2.2.1, h.2.2.2.1⟩), oi_none rfl⟩))
    have hy := ho.mp a
    have hz := ho2.mp b
    refine pw_sh fun _ => pw_onS r1 (pw_sh fun _ => ?_)
    unfold fX4_signAt
    rw [if_pos a, if_pos b]
    refine pw_onP (P := fun R => R.1 = g p.toInt.toNat (1000 + (40 * y.toInt.toNat + z.toInt.toNat))) (pw_sh fun _ => pw_onS r2 (pw_ar fun _ _ => pw_ib fun _ _ => pw_some ?_)) fun q' e => pw_some (Or.inl ⟨⟨a1, a2, hy.1, hy.2, hz.1, hz.2⟩, ?_⟩)
    · show mm_I σ _ (y * 40 + z).toNatClampNeg = _
      rw [zi_clamp, zi_40 (r := y.toInt.toNat) (c := z.toInt.toNat) (by omega) (by omega) (by omega) (by omega)]
      exact v2 _ (by omega)
    · rw [← e]; exact (oi_some rfl).1
  · rw [a3]
    exact pw_nu (fun _ => pw_some (Or.inr ⟨fun h => a1 ⟨h.1, h.2.1⟩, oi_none rfl⟩)) (fun q' e => by cases e)
theorem st_link8 {n : Nat} {g : Nat → Nat → Int32} {p y z : Int32} (h : ∃ st pl Q W, mm_R σ o8 7 = some st ∧ r_S8 o8 st pl Q W σ n g) : pw (fX8_link o8 p y z σ) (fun R => ((0 ≤ p.toInt ∧ p.toInt < n ∧ 0 ≤ y.toInt ∧ y.toInt ≤ 5 ∧ 0 ≤ z.toInt ∧ z.toInt ≤ 2) ∧ oi R.1 = (g p.toInt.toNat (200 + (3 * y.toInt.toNat + z.toInt.toNat))).toInt) ∨ (¬ (0 ≤ p.toInt ∧ p.toInt < n ∧ 0 ≤ y.toInt ∧ y.toInt ≤ 5 ∧ 0 ≤ z.toInt ∧ z.toInt ≤ 2) ∧ oi R.1 = -9999999999)) := by
  obtain ⟨st, pl, Q, W, e7, h, hx, -⟩ := h
  unfold fX8_link
  have ho : fX8_isOutside y 6 = 0 ↔ 0 ≤ y.toInt ∧ y.toInt ≤ 5 := by rw [zp.1, show (6 : Int32).toInt = 6 from rfl]; omega
  have ho2 : fX8_isOutside z 3 = 0 ↔ 0 ≤ z.toInt ∧ z.toInt ≤ 2 := by rw [zp.1, show (3 : Int32).toInt = 3 from rfl]; omega
  refine pw_sh fun _ => pw_onS e7 (pw_sh fun _ => pw_onP (pX6_pageAt h p) fun q hq => ?_)
  obtain ⟨e2, hq⟩ := hq
  rw [e2]
  rcases hq with ⟨a1, a2, a3⟩ | ⟨a1, a3⟩
  · rw [a3]
    refine pw_nu (fun e => by cases e) (fun q' e => ?_)
    have eq := Option.some.inj e
    subst eq
    have hp : p.toInt.toNat < n := by omega
    obtain ⟨⟨-, -, -, r4⟩, ⟨-, -, v3⟩, -⟩ := hx.1 p.toInt.toNat hp
    refine pw_ite (fun a => pw_ite (fun b => ?_) (fun b => pw_some (Or.inr ⟨fun h => b (ho2.mpr h.2.2.2.2), oi_none rfl⟩))) (fun a => pw_some (Or.inr ⟨fun h => a (ho.mpr ⟨h.2.2.1, h.2.2.2.1⟩), oi_none rfl⟩))
    have hy := ho.mp a
    have hz := ho2.mp b
    refine pw_sh fun _ => pw_onS r4 (pw_ar fun _ _ => pw_ib fun _ _ => pw_some (Or.inl ⟨⟨a1, a2, hy.1, hy.2, hz.1, hz.2⟩, ?_⟩))
    rw [(zi_ab (a := 3) (n := 3) (x := y) (s := y.toInt.toNat) (y := z) (k := z.toInt.toNat) rfl (by omega) (by omega) (by omega) (by omega) (by omega)).2, v3 _ (by omega)]
    exact (oi_some rfl).1
  · rw [a3]
    exact pw_nu (fun _ => pw_some (Or.inr ⟨fun h => a1 ⟨h.1, h.2.1⟩, oi_none rfl⟩)) (fun q' e => by cases e)
theorem st_sign9_40 {n : Nat} {s : Nat → Nat} {g : Nat → Nat → Int32} {p y z : Int32} (h : r_S9 o9 s σ n g) (c : sCI T σ) (t9 : T o9 = some 9) (hp : 0 ≤ p.toInt ∧ p.toInt < n) (hy : 0 ≤ y.toInt ∧ y.toInt ≤ 24) (hz : 0 ≤ z.toInt ∧ z.toInt ≤ 39) : pw (fX9_sign_40 o9 p y z 1 o9 σ) (fun R => (mm_I R.2 o9 0).toInt = 0 ∧ R.1.toInt = (g p.toInt.toNat (1000 + (40 * y.toInt.toNat + z.toInt.toNat))).toInt) := by
  unfold fX9_sign_40
  refine pw_sh fun _ => pw_onP (vX9_goes (p1 := 1) c t9 (by decide)).p fun q4 ⟨c4, f4, r4, r5⟩ => ?_
  rw [if_neg (by rw [r4]; decide)]
  have h4 : r_S9 o9 s q4.2 n g := h.fr f4 c t9 rfl rfl
  have hV : q_V (mm_I q4.2 o9 14).toInt (q_F o9 q4.2) s n g := h4.1
  have h0 : (mm_I q4.2 o9 0).toInt = 0 := by rw [r5]; rfl
  have hi : p.toInt.toNat < n := by omega
  have ecl : p.toNatClampNeg = p.toInt.toNat := zi_clamp p
  generalize p.toInt.toNat = i at hi ecl ⊢
  have hsl := hV.2.2.1 i hi
  obtain ⟨-, y2, -⟩ := h4.2 i hi
  obtain ⟨q15, e15, t15⟩ := ci_ref c4 t9 15 (κ' := 65) rfl
  obtain ⟨q23, e23, t23⟩ := ci_ref c4 t9 23 (κ' := 73) rfl
  obtain ⟨q24, e24, t24⟩ := ci_ref c4 t9 24 (κ' := 74) rfl
  have b2 := hsl.2.1
  have hs20 := hsl.1
  have eg : (mm_I q4.2 q15 i).toInt = s i := by rw [← b2]; show _ = (rdA q4.2 o9 15 i).toInt; rw [rdA_eq e15]
  have k := y2 y.toInt.toNat (by omega) z.toInt.toNat (by omega)
  rw [rdA_eq e23, rdA_eq e24] at k
  refine pw_sh fun _ => pw_onS e15 (pw_ar fun _ _ => pw_ib fun _ _ => pw_onS e24 (pw_ar fun _ _ => pw_ib fun _ _ => ?_))
  rw [ecl, (zi_ab (a := 25) (n := 25) (x := mm_I q4.2 q15 i) (s := s i) (y := y) (k := y.toInt.toNat) rfl eg (by omega) (by omega) (by omega) (by omega)).2]
  refine pw_ite (fun a => ?_) (fun a => ?_)
  · rw [if_pos a] at k
    exact pw_some ⟨h0, congrArg Int32.toInt k⟩
  · rw [if_neg a] at k
    refine pw_onS e23 (pw_ar fun _ _ => pw_ib fun _ _ => pw_some ⟨h0, ?_⟩)
    have e40 : (40 * y).toInt = (40 * y.toInt.toNat : Nat) := by rw [zi_mul, show (40 : Int32).toInt = 40 from rfl, zi_bm (by omega) (by omega)]; omega
    have e1 := (zi_ab (a := 1000) (n := 1000) (x := mm_I q4.2 q15 i) (s := s i) (y := 40 * y) (k := 40 * y.toInt.toNat) rfl eg e40 (by omega) (by omega) (by omega)).1
    have e2 : (1000 * mm_I q4.2 q15 i + 40 * y + z).toNatClampNeg = 1000 * s i + (40 * y.toInt.toNat + z.toInt.toNat) := by
      rw [zi_clamp, zi_add, e1, zi_bm (by omega) (by omega)]; omega
    show (mm_I q4.2 q23 (1000 * mm_I q4.2 q15 i + 40 * y + z).toNatClampNeg).toInt = _
    rw [e2]
    exact congrArg Int32.toInt k
theorem st_sign9 {n : Nat} {s : Nat → Nat} {g : Nat → Nat → Int32} {p y z : Int32} (h : r_S9 o9 s σ n g) (c : sCI T σ) (t9 : T o9 = some 9) : pw (fX9_sign o9 p y z σ) (fun R => ((0 ≤ p.toInt ∧ p.toInt < n ∧ 0 ≤ y.toInt ∧ y.toInt ≤ 24 ∧ 0 ≤ z.toInt ∧ z.toInt ≤ 39) ∧ (mm_I R.2 o9 0).toInt = 0 ∧ R.1.toInt = (g p.toInt.toNat (1000 + (40 * y.toInt.toNat + z.toInt.toNat))).toInt) ∨ (¬ (0 ≤ p.toInt ∧ p.toInt < n ∧ 0 ≤ y.toInt ∧ y.toInt ≤ 24 ∧ 0 ≤ z.toInt ∧ z.toInt ≤ 39) ∧ (mm_I R.2 o9 0).toInt = 1)) := by
  unfold fX9_sign
  have h14 : (mm_I σ o9 14).toInt = n := h.1.1
  have em := zi_m1 (x := mm_I σ o9 14) (by omega)
  have hin1 : fX9_in p 0 (mm_I σ o9 14 - 1) = 0 ↔ ¬ (0 ≤ p.toInt ∧ p.toInt < n) := by
    rw [zp.2.1, em, h14, show (0 : Int32).toInt = 0 from rfl]; omega
  have hin2 : fX9_in y 0 24 = 0 ↔ ¬ (0 ≤ y.toInt ∧ y.toInt ≤ 24) := zp.2.1 y 0 24
  have hin3 : fX9_in z 0 39 = 0 ↔ ¬ (0 ≤ z.toInt ∧ z.toInt ≤ 39) := zp.2.1 z 0 39
  have bad : ¬ (0 ≤ p.toInt ∧ p.toInt < n ∧ 0 ≤ y.toInt ∧ y.toInt ≤ 24 ∧ 0 ≤ z.toInt ∧ z.toInt ≤ 39) → pw (fX9_sign_39 o9 p y z o9 σ) (fun R => ((0 ≤ p.toInt ∧ p.toInt < n ∧ 0 ≤ y.toInt ∧ y.toInt ≤ 24 ∧ 0 ≤ z.toInt ∧ z.toInt ≤ 39) ∧ (mm_I R.2 o9 0).toInt = 0 ∧ R.1.toInt = (g p.toInt.toNat (1000 + (40 * y.toInt.toNat + z.toInt.toNat))).toInt) ∨ (¬ (0 ≤ p.toInt ∧ p.toInt < n ∧ 0 ≤ y.toInt ∧ y.toInt ≤ 24 ∧ 0 ≤ z.toInt ∧ z.toInt ≤ 39) ∧ (mm_I R.2 o9 0).toInt = 1)) := by
    intro hb
    unfold fX9_sign_39 fX9_sign_40
    refine pw_sh fun _ => pw_onP (vX9_goes (p1 := 0) c t9 (by decide)).p fun q4 ⟨c4, f4, r4, r5⟩ => ?_
    rw [if_pos r4]
    exact pw_some (Or.inr ⟨hb, by show (mm_I q4.2 o9 0).toInt = 1; rw [r5]; rfl⟩)
  refine pw_sh fun _ => pw_ite (fun a => bad (fun h => (hin1.mp a) ⟨h.1, h.2.1⟩)) (fun a => pw_ite (fun b => bad (fun h => (hin2.mp b) ⟨h.2.2.1, h.2.2.2.1⟩)) (fun b => pw_ite (fun d => bad (fun h => (hin3.mp d) h.2.2.2.2)) (fun d => ?_)))
  have h1 : 0 ≤ p.toInt ∧ p.toInt < n := Decidable.byContradiction fun h => a (hin1.mpr h)
  have h2 : 0 ≤ y.toInt ∧ y.toInt ≤ 24 := Decidable.byContradiction fun h => b (hin2.mpr h)
  have h3 : 0 ≤ z.toInt ∧ z.toInt ≤ 39 := Decidable.byContradiction fun h => d (hin3.mpr h)
  exact (st_sign9_40 h c t9 h1 h2 h3).mono (fun R hR => Or.inl ⟨⟨h1.1, h1.2, h2.1, h2.2, h3.1, h3.2⟩, hR⟩)
theorem st_link9_38 {n : Nat} {s : Nat → Nat} {g : Nat → Nat → Int32} {p y z : Int32} (h : r_S9 o9 s σ n g) (c : sCI T σ) (t9 : T o9 = some 9) (hp : 0 ≤ p.toInt ∧ p.toInt < n) (hy : 0 ≤ y.toInt ∧ y.toInt ≤ 5) (hz : 0 ≤ z.toInt ∧ z.toInt ≤ 2) : pw (fX9_link_38 o9 p y z 1 o9 σ) (fun R => (mm_I R.2 o9 0).toInt = 0 ∧ R.1.toInt = (g p.toInt.toNat (200 + (3 * y.toInt.toNat + z.toInt.toNat))).toInt) := by
  unfold fX9_link_38
  refine pw_sh fun _ => pw_onP (vX9_goes (p1 := 1) c t9 (by decide)).p fun q4 ⟨c4, f4, r4, r5⟩ => ?_
  rw [if_neg (by rw [r4]; decide)]
  have h4 : r_S9 o9 s q4.2 n g := h.fr f4 c t9 rfl rfl
  have hV : q_V (mm_I q4.2 o9 14).toInt (q_F o9 q4.2) s n g := h4.1
  have h0 : (mm_I q4.2 o9 0).toInt = 0 := by rw [r5]; rfl
  have hi : p.toInt.toNat < n := by omega
  have ecl : p.toNatClampNeg = p.toInt.toNat := zi_clamp p
  generalize p.toInt.toNat = i at hi ecl ⊢
  have hsl := hV.2.2.1 i hi
  obtain ⟨-, -, y3⟩ := h4.2 i hi
  obtain ⟨q15, e15, t15⟩ := ci_ref c4 t9 15 (κ' := 65) rfl
  obtain ⟨q25, e25, t25⟩ := ci_ref c4 t9 25 (κ' := 75) rfl
  obtain ⟨q26, e26, t26⟩ := ci_ref c4 t9 26 (κ' := 76) rfl
  have b2 := hsl.2.1
  have hs20 := hsl.1
  have eg : (mm_I q4.2 q15 i).toInt = s i := by rw [← b2]; show _ = (rdA q4.2 o9 15 i).toInt; rw [rdA_eq e15]
  have k := y3 y.toInt.toNat (by omega) z.toInt.toNat (by omega)
  rw [rdA_eq e25, rdA_eq e26] at k
  have e6 := zi_ab (a := 6) (n := 6) (x := mm_I q4.2 q15 i) (s := s i) (y := y) (k := y.toInt.toNat) rfl eg (by omega) (by omega) (by omega) (by omega)
  refine pw_sh fun _ => pw_onS e15 (pw_ar fun _ _ => pw_ib fun _ _ => pw_onS e26 (pw_ar fun _ _ => pw_ib fun _ _ => ?_))
  rw [ecl, e6.2]
  refine pw_ite (fun a => ?_) (fun a => ?_)
  · rw [if_pos a] at k
    exact pw_some ⟨h0, congrArg Int32.toInt k⟩
  · rw [if_neg a] at k
    refine pw_onS e25 (pw_ar fun _ _ => pw_ib fun _ _ => pw_some ⟨h0, ?_⟩)
    have e2 : (3 * (6 * mm_I q4.2 q15 i + y) + z).toNatClampNeg = 18 * s i + (3 * y.toInt.toNat + z.toInt.toNat) := by
      have := e6.1
      rw [zi_clamp, zi_add, zi_mul, this, show (3 : Int32).toInt = 3 from rfl, zi_bm (x := 3 * _) (by omega) (by omega), zi_bm (by omega) (by omega)]; omega
    show (mm_I q4.2 q25 (3 * (6 * mm_I q4.2 q15 i + y) + z).toNatClampNeg).toInt = _
    rw [e2]
    exact congrArg Int32.toInt k
theorem st_link9 {n : Nat} {s : Nat → Nat} {g : Nat → Nat → Int32} {p y z : Int32} (h : r_S9 o9 s σ n g) (c : sCI T σ) (t9 : T o9 = some 9) : pw (fX9_link o9 p y z σ) (fun R => ((0 ≤ p.toInt ∧ p.toInt < n ∧ 0 ≤ y.toInt ∧ y.toInt ≤ 5 ∧ 0 ≤ z.toInt ∧ z.toInt ≤ 2) ∧ (mm_I R.2 o9 0).toInt = 0 ∧ R.1.toInt = (g p.toInt.toNat (200 + (3 * y.toInt.toNat + z.toInt.toNat))).toInt) ∨ (¬ (0 ≤ p.toInt ∧ p.toInt < n ∧ 0 ≤ y.toInt ∧ y.toInt ≤ 5 ∧ 0 ≤ z.toInt ∧ z.toInt ≤ 2) ∧ (mm_I R.2 o9 0).toInt = 1)) := by
  unfold fX9_link
  have h14 : (mm_I σ o9 14).toInt = n := h.1.1
  have em := zi_m1 (x := mm_I σ o9 14) (by omega)
  have hin1 : fX9_in p 0 (mm_I σ o9 14 - 1) = 0 ↔ ¬ (0 ≤ p.toInt ∧ p.toInt < n) := by
    rw [zp.2.1, em, h14, show (0 : Int32).toInt = 0 from rfl]; omega
  have hin2 : fX9_in y 0 5 = 0 ↔ ¬ (0 ≤ y.toInt ∧ y.toInt ≤ 5) := zp.2.1 y 0 5
  have hin3 : fX9_in z 0 2 = 0 ↔ ¬ (0 ≤ z.toInt ∧ z.toInt ≤ 2) := zp.2.1 z 0 2
  have bad : ¬ (0 ≤ p.toInt ∧ p.toInt < n ∧ 0 ≤ y.toInt ∧ y.toInt ≤ 5 ∧ 0 ≤ z.toInt ∧ z.toInt ≤ 2) → pw (fX9_link_37 o9 p y z o9 σ) (fun R => ((0 ≤ p.toInt ∧ p.toInt < n ∧ 0 ≤ y.toInt ∧ y.toInt ≤ 5 ∧ 0 ≤ z.toInt ∧ z.toInt ≤ 2) ∧ (mm_I R.2 o9 0).toInt = 0 ∧ R.1.toInt = (g p.toInt.toNat (200 + (3 * y.toInt.toNat + z.toInt.toNat))).toInt) ∨ (¬ (0 ≤ p.toInt ∧ p.toInt < n ∧ 0 ≤ y.toInt ∧ y.toInt ≤ 5 ∧ 0 ≤ z.toInt ∧ z.toInt ≤ 2) ∧ (mm_I R.2 o9 0).toInt = 1)) := by
    intro hb
    unfold fX9_link_37 fX9_link_38
    refine pw_sh fun _ => pw_onP (vX9_goes (p1 := 0) c t9 (by decide)).p fun q4 ⟨c4, f4, r4, r5⟩ => ?_
    rw [if_pos r4]
    exact pw_some (Or.inr ⟨hb, by show (mm_I q4.2 o9 0).toInt = 1; rw [r5]; rfl⟩)
  refine pw_sh fun _ => pw_ite (fun a => bad (fun h => (hin1.mp a) ⟨h.1, h.2.1⟩)) (fun a => pw_ite (fun b => bad (fun h => (hin2.mp b) ⟨h.2.2.1, h.2.2.2.1⟩)) (fun b => pw_ite (fun d => bad (fun h => (hin3.mp d) h.2.2.2.2)) (fun d => ?_)))
  have h1 : 0 ≤ p.toInt ∧ p.toInt < n := Decidable.byContradiction fun h => a (hin1.mpr h)
  have h2 : 0 ≤ y.toInt ∧ y.toInt ≤ 5 := Decidable.byContradiction fun h => b (hin2.mpr h)
  have h3 : 0 ≤ z.toInt ∧ z.toInt ≤ 2 := Decidable.byContradiction fun h => d (hin3.mpr h)
  exact (st_link9_38 h c t9 h1 h2 h3).mono (fun R hR => Or.inl ⟨⟨h1.1, h1.2, h2.1, h2.2, h3.1, h3.2⟩, hR⟩)
end ST42
