/-! The two stores together: the abstract store's invariant, determinism, the relation -/
def q_AI (n : Nat) (g : Nat → Nat → Int32) : Prop := (∀ i, i < n → 1 ≤ (g i 2).toInt ∧ (g i 2).toInt ≤ 8) ∧ q_ou n g ∧ (∀ i j, i < n → j < n → g i 2 = g j 2 → g i 3 = g j 3 → g i 4 = g j 4 → i = j)
section AI
variable {n : Nat} {g : Nat → Nat → Int32}
theorem q_clxf {b : Bool} {m : Int32} {x : Int} {i f : Nat} (h6 : f ≠ 6) (h7 : f ≠ 7) : q_clx g b m x i f = g i f := by
  unfold q_clx
  by_cases h : g i 6 ≠ 0 ∧ 1 ≤ (g i 2).toInt ∧ (g i 2).toInt < x ∧ (b = true ∨ g i 2 = m)
  · rw [if_pos h, if_neg h6, if_neg h7]
  · rw [if_neg h]
theorem q_AI.clx (h : q_AI n g) (b : Bool) (m : Int32) (x : Int) : q_AI n (q_clx g b m x) := by
  refine ⟨fun i hi => by rw [q_clx2]; exact h.1 i hi, h.2.1.clx b m x, fun i j hi hj e2 e3 e4 => ?_⟩
  rw [q_clxf (by decide) (by decide), q_clxf (by decide) (by decide)] at e2 e3 e4
  exact h.2.2 i j hi hj e2 e3 e4
theorem q_AI.sh (h : q_AI n g) {k : Nat} (hk : k < n) : q_AI (n - 1) (q_shf g k) := by
  have e : ∀ i, q_shf g k i = g (if i < k then i else i + 1) := fun i => by
    unfold q_shf; split <;> rfl
  have l : ∀ i, i < n - 1 → (if i < k then i else i + 1) < n := fun i hi => by split <;> omega
  have inj : ∀ i j, (if i < k then i else i + 1) = (if j < k then j else j + 1) → i = j := fun i j h => by
    split at h <;> split at h <;> omega
  refine ⟨fun i hi => by rw [e]; exact h.1 _ (l i hi), fun i j hi hj h1 h2 h3 => ?_, fun i j hi hj h1 h2 h3 => ?_⟩
  · rw [e] at h1 h2 h3; rw [e] at h3
    exact inj _ _ (h.2.1 _ _ (l i hi) (l j hj) h1 h2 h3)
  · rw [e, e] at h1 h2 h3
    exact inj _ _ (h.2.2 _ _ (l i hi) (l j hj) h1 h2 h3)
theorem q_AI.add (h : q_AI n g) {m fl : Int32} {r : Nat → Int32} (hm : 1 ≤ m.toInt ∧ m.toInt ≤ 8) (r2 : r 2 = m) (hno : ∀ i, i < n → ¬ q_op g m i) (hnm : ∀ i, i < n → g i 2 = m → g i 3 = r 3 → g i 4 = r 4 → False) : q_AI (n + 1) (q_opn (q_app g n r) n fl) := by
  have gl : ∀ i f, i < n → q_opn (q_app g n r) n fl i f = g i f := fun i f hi => by
    unfold q_opn q_app; rw [if_neg (by omega), if_neg (by omega)]
  have gn : ∀ f, q_opn (q_app g n r) n fl n f = if f = 6 then 1 else if f = 8 then r 8 + 1 else if f = 5 then fl else r f := fun f => by
    unfold q_opn q_app; rw [if_pos rfl, if_pos rfl]
  have n2 : q_opn (q_app g n r) n fl n 2 = m := (gn 2).trans r2
  have n3 : q_opn (q_app g n r) n fl n 3 = r 3 := gn 3
  have n4 : q_opn (q_app g n r) n fl n 4 = r 4 := gn 4
  refine ⟨fun i hi => ?_, fun i j hi hj h1 h2 h3 => ?_, fun i j hi hj h1 h2 h3 => ?_⟩
  · by_cases e : i = n
    · rw [e, n2]; exact hm
    · rw [gl i _ (by omega)]; exact h.1 i (by omega)
  · by_cases e : i = n <;> by_cases d : j = n
    · omega
    · subst e
      rw [gl j _ (by omega)] at h2; rw [n2, gl j _ (by omega)] at h3
      exact absurd ⟨h2, h3.symm⟩ (hno j (by omega))
    · subst d
      rw [gl i _ (by omega)] at h1; rw [n2, gl i _ (by omega)] at h3
      exact absurd ⟨h1, h3⟩ (hno i (by omega))
    · rw [gl i _ (by omega)] at h1 h3; rw [gl j _ (by omega)] at h2 h3
      exact h.2.1 i j (by omega) (by omega) h1 h2 h3
  · by_cases e : i = n <;> by_cases d : j = n
    · omega
    · subst e
      rw [n2, gl j _ (by omega)] at h1; rw [n3, gl j _ (by omega)] at h2; rw [n4, gl j _ (by omega)] at h3
      exact (hnm j (by omega) h1.symm h2.symm h3.symm).elim
    · subst d
      rw [n2, gl i _ (by omega)] at h1; rw [n3, gl i _ (by omega)] at h2; rw [n4, gl i _ (by omega)] at h3
      exact (hnm i (by omega) h1 h2 h3).elim
    · rw [gl i _ (by omega), gl j _ (by omega)] at h1 h2 h3
      exact h.2.2 i j (by omega) (by omega) h1 h2 h3
theorem q_hdr_AI (h : q_AI n g) {P P' : Nat → Nat} {b : Bool} {m : Int32} {w : Nat → Int32} {n' : Nat} {g' : Nat → Nat → Int32} (hm : 1 ≤ m.toInt ∧ m.toInt ≤ 8) (hsb : fX8_subcodeOf (w 2) (w 3) (w 4) (w 5) ≠ -1) (hh : q_hdr n g P b m w n' g' P') : q_AI n' g' := by
  have hc := h.clx b m 9
  have hno : ∀ i, i < n → ¬ q_op (q_clx g b m 9) m i := fun i hi ho => by
    have h6 := q_clx6.mp ho.1
    have h2 := ho.2
    rw [q_clx2] at h2
    exact h6.2 ⟨(h.1 i hi).1, by have := (h.1 i hi).2; omega, Or.inr h2⟩
  rcases hh with ⟨-, rfl, rfl, -⟩ | ⟨-, g2, hb, rfl⟩
  · exact hc
  · generalize q_clx g b m 9 = gc at hc hno hb
    generalize fX8_subcodeOf (w 2) (w 3) (w 4) (w 5) = sb at hsb hb
    generalize 16 * w 1 + w 0 = nu at hb
    rcases hb with ⟨j, hj, hnm, rfl, rfl, -⟩ | ⟨hnm, hn, rfl, rfl, -⟩ | ⟨hnm, hn, rfl, rfl, -⟩
    · have := (hc.sh hj).add (fl := q_fl (w 3) (w 5) (w 7)) (r := gc j) hm hnm.1 (fun i hi ho => ?_) (fun i hi e2 e3 e4 => ?_)
      · rw [show n' - 1 + 1 = n' by omega] at this; exact this
      · unfold q_op q_shf at ho
        by_cases d : i < j
        · rw [if_pos d] at ho; exact hno i (by omega) ho
        · rw [if_neg d] at ho; exact hno (i + 1) (by omega) ho
      · unfold q_shf at e2 e3 e4
        by_cases d : i < j
        · rw [if_pos d] at e2 e3 e4; have := hc.2.2 i j (by omega) hj (e2.trans hnm.1.symm) e3 e4; omega
        · rw [if_neg d] at e2 e3 e4; have := hc.2.2 (i + 1) j (by omega) hj (e2.trans hnm.1.symm) e3 e4; omega
    · have := hc.add (fl := q_fl (w 3) (w 5) (w 7)) (r := q_new m nu sb) hm rfl hno (fun i hi e2 e3 e4 => hnm i hi ⟨e2, e3, Or.inr e4⟩)
      rw [Nat.add_sub_cancel]; exact this
    · subst hn
      have := (hc.sh (k := 0) (by omega)).add (fl := q_fl (w 3) (w 5) (w 7)) (r := q_new m nu sb) hm rfl (fun i hi ho => ?_) (fun i hi e2 e3 e4 => ?_)
      · exact this
      · unfold q_op q_shf at ho
        rw [if_neg (by omega)] at ho
        exact hno (i + 1) (by omega) ho
      · unfold q_shf at e2 e3 e4
        rw [if_neg (by omega)] at e2 e3 e4
        exact hnm (i + 1) (by omega) ⟨e2, e3, Or.inr e4⟩
theorem q_hdr_u (h : q_AI n g) {P P1 Q P2 : Nat → Nat} {b : Bool} {m : Int32} {w : Nat → Int32} {n1 n2 : Nat} {g1 g2 : Nat → Nat → Int32} (hsb : fX8_subcodeOf (w 2) (w 3) (w 4) (w 5) ≠ -1) (h1 : q_hdr n g P b m w n1 g1 P1) (h2 : q_hdr n g Q b m w n2 g2 P2) : n1 = n2 ∧ g1 = g2 := by
  have hc := h.clx b m 9
  rcases h1 with ⟨a1, rfl, rfl, -⟩ | ⟨a1, x1, b1, rfl⟩ <;> rcases h2 with ⟨a2, rfl, rfl, -⟩ | ⟨a2, x2, b2, rfl⟩
  · exact ⟨rfl, rfl⟩
  · exact absurd a1 a2
  · exact absurd a2 a1
  · have : n1 = n2 ∧ x1 = x2 := by
      generalize q_clx g b m 9 = gc at hc b1 b2
      generalize fX8_subcodeOf (w 2) (w 3) (w 4) (w 5) = sb at hsb b1 b2
      generalize 16 * w 1 + w 0 = nu at b1 b2
      rcases b1 with ⟨j, hj, hnm, rfl, rfl, -⟩ | ⟨hnm, hn, rfl, rfl, -⟩ | ⟨hnm, hn, rfl, rfl, -⟩ <;> rcases b2 with ⟨j', hj', hnm', rfl, rfl, -⟩ | ⟨hnm', hn', rfl, rfl, -⟩ | ⟨hnm', hn', rfl, rfl, -⟩
      · have : j = j' := hc.2.2 j j' hj hj' (hnm.1.trans hnm'.1.symm) (hnm.2.1.trans hnm'.2.1.symm) ((hnm.2.2.resolve_left hsb).trans (hnm'.2.2.resolve_left hsb).symm)
        subst this; exact ⟨rfl, rfl⟩
      · exact absurd hnm (hnm' j hj)
      · exact absurd hnm (hnm' j hj)
      · exact absurd hnm' (hnm j' hj')
      · exact ⟨rfl, rfl⟩
      · omega
      · exact absurd hnm' (hnm j' hj')
      · omega
      · exact ⟨rfl, rfl⟩
    obtain ⟨rfl, rfl⟩ := this
    exact ⟨rfl, rfl⟩
/-- the values of a packet's bytes -/
def q_vals (v0 : Int32) (w : Nat → Int32) : Prop := (v0 = -1 ∨ ∃ k : Fin 16, v0 = Int32.ofNat k.val) ∧ ∀ j, w j = -1 ∨ ∃ k : Fin 16, w j = Int32.ofNat k.val
theorem q_vsb {v0 : Int32} {w : Nat → Int32} (hv : q_vals v0 w) (hn : ∀ j, j < 8 → w j ≠ -1) : fX8_subcodeOf (w 2) (w 3) (w 4) (w 5) ≠ -1 :=
  v_sub1 ((hv.2 2).resolve_left (hn 2 (by omega))) ((hv.2 3).resolve_left (hn 3 (by omega))) ((hv.2 4).resolve_left (hn 4 (by omega))) ((hv.2 5).resolve_left (hn 5 (by omega)))
theorem q_vmg {v0 : Int32} {w : Nat → Int32} (hv : q_vals v0 w) (h0 : v0 ≠ -1) : 1 ≤ (fX8_magazineOf v0).toInt ∧ (fX8_magazineOf v0).toInt ≤ 8 := by
  obtain ⟨k, rfl⟩ := hv.1.resolve_left h0
  exact (v_mag k).2
theorem q_pkt_AI (h : q_AI n g) {P P' : Nat → Nat} {nt nt' : Nat → Int32} {v0 v1 : Int32} {w : Nat → Int32} {n' : Nat} {g' : Nat → Nat → Int32} (hv : q_vals v0 w) (hh : q_pkt n g P nt v0 v1 w n' g' P' nt') : q_AI n' g' := by
  rcases hh with ⟨-, rfl, rfl, -, -⟩ | ⟨hb, ⟨-, ⟨-, rfl, rfl, -, -⟩ | ⟨hn, hd, -⟩⟩ | ⟨-, -, -, rfl, rfl, -, -⟩ | ⟨-, -, rfl, rfl, -, -⟩⟩
  · exact h
  · exact h
  · exact q_hdr_AI h (q_vmg hv (fun e => hb (Or.inl e))) (q_vsb hv hn) hd
  · exact h
  · exact h
theorem q_pkt_u (h : q_AI n g) {P P1 Q P2 : Nat → Nat} {nt nt1 nt2 : Nat → Int32} {v0 v1 : Int32} {w : Nat → Int32} {n1 n2 : Nat} {g1 g2 : Nat → Nat → Int32} (hv : q_vals v0 w) (h1 : q_pkt n g P nt v0 v1 w n1 g1 P1 nt1) (h2 : q_pkt n g Q nt v0 v1 w n2 g2 P2 nt2) : n1 = n2 ∧ g1 = g2 ∧ nt1 = nt2 := by
  rcases h1 with ⟨a1, rfl, rfl, -, rfl⟩ | ⟨a1, b1⟩ <;> rcases h2 with ⟨a2, rfl, rfl, -, rfl⟩ | ⟨a2, b2⟩
  · exact ⟨rfl, rfl, rfl⟩
  · exact absurd a1 a2
  · exact absurd a2 a1
  · rcases b1 with ⟨z1, c1⟩ | ⟨z1, y1, x1, rfl, rfl, -, rfl⟩ | ⟨z1, y1, rfl, rfl, -, rfl⟩ <;> rcases b2 with ⟨z2, c2⟩ | ⟨z2, y2, x2, rfl, rfl, -, rfl⟩ | ⟨z2, y2, rfl, rfl, -, rfl⟩
    · rcases c1 with ⟨⟨j, hj, ej⟩, rfl, rfl, -, rfl⟩ | ⟨d1, e1, rfl⟩ <;> rcases c2 with ⟨⟨j', hj', ej'⟩, rfl, rfl, -, rfl⟩ | ⟨d2, e2, rfl⟩
      · exact ⟨rfl, rfl, rfl⟩
      · exact absurd ej (d2 j hj)
      · exact absurd ej' (d1 j' hj')
      · obtain ⟨r1, r2⟩ := q_hdr_u h (q_vsb hv d1) e1 e2
        exact ⟨r1, r2, rfl⟩
    · exact absurd z1 z2
    · exact absurd z1 z2
    · exact absurd z2 z1
    · exact ⟨rfl, rfl, rfl⟩
    · rcases y2 with y2 | ⟨i, hi, ho⟩
      · exact absurd y1 y2
      · exact absurd ho (x1 i hi)
    · exact absurd z2 z1
    · rcases y1 with y1 | ⟨i, hi, ho⟩
      · exact absurd y2 y1
      · exact absurd ho (x2 i hi)
    · exact ⟨rfl, rfl, rfl⟩
end AI
theorem q_last_u {Q : Nat → Prop} {n : Nat} {r r' : Int32} (h : q_last Q n r) (h' : q_last Q n r') : r = r' := by
  rcases h with ⟨rfl, a⟩ | ⟨a1, a2, a3, a4⟩ <;> rcases h' with ⟨rfl, b⟩ | ⟨b1, b2, b3, b4⟩
  · rfl
  · exact absurd b3 (a _ (by omega))
  · exact absurd a3 (b _ (by omega))
  · rw [zi_eq]
    by_cases c : r.toInt.toNat < r'.toInt.toNat
    · exact absurd b3 (a4 _ c (by omega))
    · by_cases d : r'.toInt.toNat < r.toInt.toNat
      · exact absurd a3 (b4 _ d (by omega))
      · omega
/-- the stores are alike -/
def stR (o8 o9 : Nat) (σ : mm_M) : Prop := ∃ (n : Nat) (g : Nat → Nat → Int32), q_AI n g ∧ (∃ st pl P, mm_R σ o8 7 = some st ∧ q_S8 st pl P σ n g) ∧ (∃ s, q_S9 o9 s σ n g) ∧ ∀ k, rdA σ o8 6 k = rdA σ o9 13 k
def q_bad : List Nat := [807, 6, 25, 3, 806, 16, 913, 63, 914, 915, 916, 917, 918, 919, 920, 921, 922, 927, 65, 66, 67, 68, 69, 70, 71, 72, 77]
def q_ok (K : List Nat) : Bool := K.all (fun x => !(q_bad.contains x))
theorem q_okc {K : List Nat} (h : q_ok K = true) {x : Nat} (hx : q_bad.contains x = true) : K.contains x = false := q_no fun y hy => by
  have h1 := List.all_eq_true.mp h y hy
  intro e
  subst e
  rw [hx] at h1
  cases h1
theorem q_okf {K : List Nat} (h : q_ok K = true) : q_fr K = true := by
  unfold q_fr
  refine List.all_eq_true.mpr fun y hy => ?_
  have h1 := List.all_eq_true.mp h y hy
  simp only [q_bad, List.contains_eq_mem, List.mem_cons, List.not_mem_nil, or_false, Bool.not_eq_true', decide_eq_false_iff_not] at h1
  simp only [Bool.and_eq_true, Bool.not_eq_true', Bool.and_eq_false_iff, decide_eq_false_iff_not, beq_eq_false_iff_ne]
  omega
section ST21
variable {T : Nat → Option Nat} {σ : mm_M} {o8 o9 : Nat}
theorem q_8fr {K : List Nat} {σ' : mm_M} {n : Nat} {g : Nat → Nat → Int32} (c : sCI T σ) (t8 : T o8 = some 8) (f : sFR T K σ σ') (hK : q_ok K = true) (h : ∃ st pl P, mm_R σ o8 7 = some st ∧ q_S8 st pl P σ n g) : ∃ st pl P, mm_R σ' o8 7 = some st ∧ q_S8 st pl P σ' n g := by
  obtain ⟨st, pl, P, e7, h⟩ := h
  obtain ⟨q, e, tq⟩ := ci_ref c t8 7 (κ' := 6) rfl
  have : q = st := Option.some.inj (e.symm.trans e7)
  subst this
  exact ⟨q, pl, P, (f.2.2 o8 8 t8 7 (q_okc hK rfl)).2.trans e7, h.fr c tq f (q_okc hK rfl) (q_okc hK rfl) (q_okc hK rfl)⟩
theorem q_8cg {τ ρ : mm_M} {n : Nat} {g : Nat → Nat → Int32} (hI : ∀ a k, mm_I τ a k = mm_I ρ a k) (hR : ∀ a k, mm_R τ a k = mm_R ρ a k) (h : ∃ st pl P, mm_R ρ o8 7 = some st ∧ q_S8 st pl P ρ n g) : ∃ st pl P, mm_R τ o8 7 = some st ∧ q_S8 st pl P τ n g := by
  obtain ⟨st, pl, P, e7, h⟩ := h
  exact ⟨st, pl, P, (hR _ _).trans e7, h.same (hR _ _) (hI _ _) (fun i _ => hR _ _) (fun i _ f => hI _ _)⟩
theorem q_9cg {τ ρ : mm_M} {n : Nat} {s : Nat → Nat} {g : Nat → Nat → Int32} (hI : ∀ a k, mm_I τ a k = mm_I ρ a k) (hR : ∀ a k, mm_R τ a k = mm_R ρ a k) (h : q_S9 o9 s ρ n g) : q_S9 o9 s τ n g := by
  unfold q_S9
  rw [hI]
  exact q_V.cg h (fun k i _ => rdA_congr hI hR o9 k i)
theorem st_keep {T' : Nat → Option Nat} {K8 K9 : List Nat} {τ ρ ω : mm_M} (c : sCI T σ) (t8 : T o8 = some 8) (t9 : T o9 = some 9) (hr : stR o8 o9 σ) (f8 : sFR T K8 σ ρ) (c' : sCI T' τ) (t8' : T' o8 = some 8) (t9' : T' o9 = some 9) (hI : ∀ a k, mm_I τ a k = mm_I ρ a k) (hR : ∀ a k, mm_R τ a k = mm_R ρ a k) (f9 : sFR T' K9 τ ω) (h8 : q_ok K8 = true) (h9 : q_ok K9 = true) : stR o8 o9 ω := by
  obtain ⟨n, g, ai, s8, ⟨s, s9⟩, hn⟩ := hr
  refine ⟨n, g, ai, q_8fr c' t8' f9 h9 (q_8cg hI hR (q_8fr c t8 f8 h8 s8)), ⟨s, q_S9.fr (q_9cg hI hR (s9.fr f8 c t9 (q_okf h8))) f9 c' t9' (q_okf h9)⟩, fun k => ?_⟩
  rw [rdA_fr f9 c' t8' (k := 6) (κ' := 16) rfl (q_okc h9 rfl) (q_okc h9 rfl), rdA_congr hI hR, rdA_fr f8 c t8 (k := 6) (κ' := 16) rfl (q_okc h8 rfl) (q_okc h8 rfl), rdA_fr f9 c' t9' (k := 13) (κ' := 63) rfl (q_okc h9 rfl) (q_okc h9 rfl), rdA_congr hI hR, rdA_fr f8 c t9 (k := 13) (κ' := 63) rfl (q_okc h8 rfl) (q_okc h8 rfl)]
  exact hn k
theorem st_0 {out : Nat} (F : lx_Fr T o8 o9 out σ) : stR o8 o9 σ := by
  obtain ⟨c, fv, t8, t9, -⟩ := F
  obtain ⟨st, e1, u1⟩ := ci_ref c t8 7 (κ' := 6) rfl
  obtain ⟨pl, e2, u2⟩ := ci_ref c u1 0 (κ' := 25) rfl
  obtain ⟨na, e3, u3⟩ := ci_ref c t8 6 (κ' := 16) rfl
  obtain ⟨nb, e4, u4⟩ := ci_ref c t9 13 (κ' := 63) rfl
  obtain ⟨oa, e5, u5⟩ := ci_ref c t9 27 (κ' := 77) rfl
  have h1 : mm_I σ st 1 = 0 := fv st 6 1 u1
  have h2 : mm_I σ o9 14 = 0 := fv o9 9 14 t9
  refine ⟨0, fun _ _ => 0, ⟨fun i hi => absurd hi (Nat.not_lt_zero _), fun i j hi => absurd hi (Nat.not_lt_zero _), fun i j hi => absurd hi (Nat.not_lt_zero _)⟩, ⟨st, pl, fun _ => 0, e1, e2, by rw [h1]; rfl, by omega, fun i hi => absurd hi (Nat.not_lt_zero _), fun i hi => absurd hi (Nat.not_lt_zero _), fun i j hi => absurd hi (Nat.not_lt_zero _)⟩, ⟨fun _ => 0, by rw [h2]; rfl, by omega, fun i hi => absurd hi (Nat.not_lt_zero _), fun i j hi => absurd hi (Nat.not_lt_zero _), fun x x1 x2 => Or.inr ⟨?_, fun i hi => absurd hi (Nat.not_lt_zero _)⟩⟩, fun k => ?_⟩
  · show rdA σ o9 27 x.toInt.toNat = -1
    rw [rdA_eq e5]
    exact fv oa 77 _ u5 (by omega)
  · have a1 : mm_I σ na k = 0 := fv na 16 k u3
    have a2 : mm_I σ nb k = 0 := fv nb 63 k u4
    rw [rdA_eq e3, rdA_eq e4, a1, a2]
end ST21
section ST22
variable {T : Nat → Option Nat} {σ : mm_M} {o8 o9 : Nat}
/-- what the class's packet leaves of the store -/
def st8P (o8 o9 : Nat) (σ : mm_M) (R : Option Int32 × mm_M) : Prop := ((mm_I σ o8 4).toInt < 42 → R.2 = σ) ∧ (42 ≤ (mm_I σ o8 4).toInt → ∀ n g, q_AI n g → (∃ st pl P, mm_R σ o8 7 = some st ∧ q_S8 st pl P σ n g) → ∃ n' g' P P', (∃ st pl P, mm_R R.2 o8 7 = some st ∧ q_S8 st pl P R.2 n' g') ∧ q_pkt n g P (fun k => rdA σ o8 6 k) (vl (rdA σ o8 3 0)) (vl (rdA σ o8 3 1)) (fun j => vl (rdA σ o8 3 (2 + j))) n' g' P' (fun k => rdA R.2 o8 6 k))
def st9P (o9 : Nat) (σ : mm_M) (R : Int32 × mm_M) : Prop := ∀ n g s, q_AI n g → q_S9 o9 s σ n g → ((mm_I σ o9 12).toInt < 42 → q_S9 o9 s R.2 n g ∧ ∀ k, rdA R.2 o9 13 k = rdA σ o9 13 k) ∧ (42 ≤ (mm_I σ o9 12).toInt → ∃ n' g' s', q_S9 o9 s' R.2 n' g' ∧ q_pkt n g s (fun k => rdA σ o9 13 k) (vl (rdA σ o9 11 0)) (vl (rdA σ o9 11 1)) (fun j => vl (rdA σ o9 11 (2 + j))) n' g' s' (fun k => rdA R.2 o9 13 k))
theorem pX9_packet0 (c : sCI T σ) (t9 : T o9 = some 9) (hl : (mm_I σ o9 12).toInt < 42) : pw (fX9_packet o9 σ) (fun R => sFR T [900] σ R.2) := by
  unfold fX9_packet
  refine pw_sh fun _ => pw_ite (fun h => ?_) (fun h => ?_)
  · unfold fX9_packet_15
    refine pw_sh fun _ => pw_onP (sX9_goes (p1 := 0) c t9 (by decide)).p fun q4 ⟨c4, f4, r4⟩ => ?_
    rw [if_pos r4]
    exact pw_some (fr_trans fr_refl f4 rfl)
  · exfalso
    rw [zi_lt] at h
    simp only [Int32.reduceToInt] at h
    omega
theorem st_packet8 (c : sCI T σ) (t8 : T o8 = some 8) (hp : pnd σ o8) (hb : ∀ j, rdA σ o8 3 j &&& 255 = rdA σ o8 3 j) : sw (fX8_packet o8 σ) (fun R => ∃ T', sTX T T' ∧ sCI T' R.2 ∧ sFR T KX8_packet σ R.2 ∧ pnd R.2 o8 ∧ tpP o8 σ R ∧ st8P o8 o9 σ R) := by
  obtain ⟨R, e, T', tx, c', f, p, x⟩ := tp_packet8 c t8 hp hb
  refine ⟨R, e, T', tx, c', f, p, x, fun hl => ?_, fun hl n g ai h8 => ?_⟩
  · rw [pX8_packet0 hl R e]
  · obtain ⟨st, pl, P, e7, h8⟩ := h8
    obtain ⟨q, eq, tq⟩ := ci_ref c t8 7 (κ' := 6) rfl
    have : q = st := Option.some.inj (eq.symm.trans e7)
    subst this
    obtain ⟨n', g', P', r1, r2⟩ := pX8_pkt h8 e7 c t8 tq hp ai.2.1 hb hl R e
    exact ⟨n', g', P, P', ⟨q, pl, P', (f.2.2 o8 8 t8 7 rfl).2.trans e7, r1⟩, r2⟩
theorem st_packet9 (c : sCI T σ) (t9 : T o9 = some 9) (hu : uc σ o9 ≤ (mm_I σ o9 14).toInt) : sw (fX9_packet o9 σ) (fun R => sCI T R.2 ∧ sFR T KX9_packet σ R.2 ∧ uc R.2 o9 ≤ (mm_I R.2 o9 14).toInt ∧ tpQ o9 σ R ∧ st9P o9 σ R) := by
  obtain ⟨R, e, c', f, p, x⟩ := tp_packet9 c t9 hu
  refine ⟨R, e, c', f, p, x, fun n g s ai h9 => ⟨fun hl => ?_, fun hl => ?_⟩⟩
  · have f0 := pX9_packet0 c t9 hl R e
    exact ⟨h9.fr f0 c t9 rfl, fun k => rdA_fr f0 c t9 (κ' := 63) rfl rfl rfl⟩
  · exact pX9_pkt h9 c t9 ai.2.1 hu ai.1 hl rfl rfl R e
theorem st_packed {T' : Nat → Option Nat} {τ : mm_M} {R8 : Option Int32 × mm_M} {R9 : Int32 × mm_M} (c : sCI T σ) (t8 : T o8 = some 8) (t9 : T o9 = some 9) (hr : tpR o8 o9 σ) (hs : stR o8 o9 σ) (f8 : sFR T KX8_packet σ R8.2) (c' : sCI T' τ) (t8' : T' o8 = some 8) (t9' : T' o9 = some 9) (hI : ∀ a k, mm_I τ a k = mm_I R8.2 a k) (hR : ∀ a k, mm_R τ a k = mm_R R8.2 a k) (f9 : sFR T' KX9_packet τ R9.2) (x8 : st8P o8 o9 σ R8) (x9 : st9P o9 τ R9) : stR o8 o9 R9.2 := by
  obtain ⟨n, g, ai, s8, ⟨s, s9⟩, hn⟩ := hs
  have k11 : ∀ j, rdA τ o9 11 j = rdA σ o9 11 j := fun j => (rdA_congr hI hR o9 11 j).trans (rdA_fr f8 c t9 (κ' := 61) rfl rfl rfl)
  have k13 : ∀ j, rdA τ o9 13 j = rdA σ o9 13 j := fun j => (rdA_congr hI hR o9 13 j).trans (rdA_fr f8 c t9 (κ' := 63) rfl rfl rfl)
  have k12 : mm_I τ o9 12 = mm_I σ o9 12 := (hI o9 12).trans (f8.2.2 o9 9 t9 12 rfl).1
  have s9' : q_S9 o9 s τ n g := q_9cg hI hR (s9.fr f8 c t9 rfl)
  have x9' := x9 n g s ai s9'
  rw [k12, ← hr.1] at x9'
  have f8' : ∀ {n' g'}, (∃ st pl P, mm_R R8.2 o8 7 = some st ∧ q_S8 st pl P R8.2 n' g') → ∃ st pl P, mm_R R9.2 o8 7 = some st ∧ q_S8 st pl P R9.2 n' g' := by
    intro n' g' h
    obtain ⟨st, pl, P, e7, h⟩ := q_8cg hI hR h
    obtain ⟨q, e, tq⟩ := ci_ref c' t8' 7 (κ' := 6) rfl
    have : q = st := Option.some.inj (e.symm.trans e7)
    subst this
    exact ⟨q, pl, P, (f9.2.2 o8 8 t8' 7 rfl).2.trans e7, h.fr c' tq f9 rfl rfl rfl⟩
  have k6 : ∀ k, rdA R9.2 o8 6 k = rdA R8.2 o8 6 k := fun k => (rdA_fr f9 c' t8' (κ' := 16) rfl rfl rfl).trans (rdA_congr hI hR o8 6 k)
  by_cases hl : (mm_I σ o8 4).toInt < 42
  · have e8 := x8.1 hl
    obtain ⟨y1, y2⟩ := x9'.1 hl
    rw [e8] at k6 f8'
    exact ⟨n, g, ai, f8' s8, ⟨s, y1⟩, fun k => by rw [k6, y2, k13]; exact hn k⟩
  · obtain ⟨n1, g1, P, P1, z1, z2⟩ := x8.2 (by omega) n g ai s8
    obtain ⟨n2, g2, s2, y1, y2⟩ := x9'.2 (by omega)
    have hvals : q_vals (vl (rdA σ o8 3 0)) (fun j => vl (rdA σ o8 3 (2 + j))) := ⟨vl_rg _, fun j => vl_rg _⟩
    have e0 : ∀ j, vl (rdA τ o9 11 j) = vl (rdA σ o8 3 j) := fun j => by rw [k11, hr.2 j, vl_255]
    have ew : (fun j => vl (rdA τ o9 11 (2 + j))) = fun j => vl (rdA σ o8 3 (2 + j)) := funext fun j => e0 (2 + j)
    have en : (fun k => rdA τ o9 13 k) = fun k => rdA σ o8 6 k := funext fun k => by rw [k13, hn]
    rw [e0 0, e0 1, ew, en] at y2
    obtain ⟨u1, u2, u3⟩ := q_pkt_u ai hvals z2 y2
    subst u1 u2
    refine ⟨n1, g1, q_pkt_AI ai hvals z2, f8' z1, ⟨s2, y1⟩, fun k => ?_⟩
    rw [k6]
    exact congrFun u3 k
/-- what is asked of the store, class and reference -/
theorem st_find8 {n : Nat} {g : Nat → Nat → Int32} {m k s : Int32} (h : ∃ st pl P, mm_R σ o8 7 = some st ∧ q_S8 st pl P σ n g) : pw (fX8_find o8 m k s σ) (fun R => q_last (q_nm g m k s) n R.1) := by
  obtain ⟨st, pl, P, e7, h⟩ := h
  unfold fX8_find
  exact pw_sh fun _ => pw_onS e7 (pw_sh fun _ => pw_onP (pX6_placeOf h) fun q hq => pw_some hq.2)
theorem st_pages8 {n : Nat} {g : Nat → Nat → Int32} (h : ∃ st pl P, mm_R σ o8 7 = some st ∧ q_S8 st pl P σ n g) : pw (fX8_pages o8 σ) (fun R => R.1.toInt = n) := by
  obtain ⟨st, pl, P, e7, h⟩ := h
  unfold fX8_pages
  exact pw_sh fun _ => pw_onS e7 (pw_sh fun _ => pw_some h.2.1)
theorem st_pages9 {n : Nat} {s : Nat → Nat} {g : Nat → Nat → Int32} (h : q_S9 o9 s σ n g) : pw (fX9_pages o9 σ) (fun R => R.1.toInt = n) := by
  unfold fX9_pages
  refine pw_sh fun _ => pw_let (pw_some ?_)
  rw [show mm_I (mm_wI σ o9 0 0) o9 14 = mm_I σ o9 14 from mm_up2_nk _ (by decide)]
  exact h.1
theorem st_find9_11 {n : Nat} {s : Nat → Nat} {g : Nat → Nat → Int32} {m k sb : Int32} (h : q_S9 o9 s σ n g) (c : sCI T σ) (t9 : T o9 = some 9) : ∀ (u : Nat) (x4 x5 : Int32) (y : Nat), x5.toInt = y → y ≤ n → q_last (q_nm g m k sb) y x4 → pw (fX9_find_11 u o9 m k sb x4 x5 σ) (fun R => q_last (q_nm g m k sb) n R.1) := by
  intro u
  induction u with
  | zero => intros; exact pw_none
  | succ u ih =>
    intro x4 x5 y hx hy hq
    have hV : q_V (mm_I σ o9 14).toInt (q_F o9 σ) s n g := h
    obtain ⟨v1, v2, v3, v4, v5⟩ := hV
    have ex := zi_p1 (x := x5) (by omega)
    have ecl : x5.toNatClampNeg = y := by rw [zi_clamp]; omega
    obtain ⟨q15, e15, t15⟩ := ci_ref c t9 15 (κ' := 65) rfl
    obtain ⟨q17, e17, t17⟩ := ci_ref c t9 17 (κ' := 67) rfl
    obtain ⟨q18, e18, t18⟩ := ci_ref c t9 18 (κ' := 68) rfl
    obtain ⟨q19, e19, t19⟩ := ci_ref c t9 19 (κ' := 69) rfl
    unfold fX9_find_11
    refine pw_sh fun _ => pw_ite (fun a => pw_some ?_) (fun a => ?_)
    · rw [zi_le, v1] at a
      have : y = n := by omega
      subst this
      exact hq
    · rw [zi_le, v1] at a
      have hyn : y < n := by omega
      obtain ⟨b1, b2, b3, b4, b5, b6, -, -, -⟩ := v3 y hyn
      rw [ecl]
      have eg : (mm_I σ q15 y).toInt = s y := by
        rw [← b2]; show _ = (rdA σ o9 15 y).toInt; rw [rdA_eq e15]
      have egc : (mm_I σ q15 y).toNatClampNeg = s y := by rw [zi_clamp]; omega
      have yes : q_nm g m k sb y → pw (fX9_find_67 (fX9_find_11 u) o9 m k sb x4 x5 (mm_I σ q15 y) σ) (fun R => q_last (q_nm g m k sb) n R.1) := fun hn => by
        unfold fX9_find_67
        refine ih x5 (x5 + 1) (y + 1) (by omega) (by omega) (Or.inr ⟨by omega, by omega, ?_, fun i h1 h2 => by omega⟩)
        rw [show x5.toInt.toNat = y by omega]; exact hn
      have no : ¬ q_nm g m k sb y → pw (fX9_find_11 u o9 m k sb x4 (x5 + 1) σ) (fun R => q_last (q_nm g m k sb) n R.1) := fun hn => by
        refine ih x4 (x5 + 1) (y + 1) (by omega) (by omega) ?_
        rcases hq with ⟨a1, a2⟩ | ⟨a1, a2, a3, a4⟩
        · refine Or.inl ⟨a1, fun i hi => ?_⟩
          by_cases e : i = y
          · subst e; exact hn
          · exact a2 i (by omega)
        · refine Or.inr ⟨a1, by omega, a3, fun i h1 h2 => ?_⟩
          by_cases e : i = y
          · subst e; exact hn
          · exact a4 i h1 (by omega)
      refine pw_onS e15 (pw_ar fun _ _ => pw_ib fun _ _ => pw_onS e17 (pw_ar fun _ _ => pw_ib fun _ _ => ?_))
      rw [egc]
      have g17 : mm_I σ q17 (s y) = g y 2 := by rw [← b4]; show _ = rdA σ o9 17 (s y); rw [rdA_eq e17]
      have g18 : mm_I σ q18 (s y) = g y 3 := by rw [← b5]; show _ = rdA σ o9 18 (s y); rw [rdA_eq e18]
      have g19 : mm_I σ q19 (s y) = g y 4 := by rw [← b6]; show _ = rdA σ o9 19 (s y); rw [rdA_eq e19]
      rw [g17]
      refine pw_ite (fun n1 => pw_onS e18 (pw_ar fun _ _ => pw_ib fun _ _ => ?_)) (fun n1 => no (fun h => n1 h.1))
      rw [g18]
      refine pw_ite (fun n2 => pw_ite (fun n3 => yes ⟨n1, n2, Or.inl n3⟩) (fun n3 => pw_onS e19 (pw_ar fun _ _ => pw_ib fun _ _ => ?_))) (fun n2 => no (fun h => n2 h.2.1))
      rw [g19]
      exact pw_ite (fun n4 => yes ⟨n1, n2, Or.inr n4⟩) (fun n4 => no (fun h => h.2.2.elim n3 n4))
theorem st_find9 {n : Nat} {s : Nat → Nat} {g : Nat → Nat → Int32} {m k sb : Int32} (h : q_S9 o9 s σ n g) (c : sCI T σ) (t9 : T o9 = some 9) : pw (fX9_find o9 m k sb σ) (fun R => q_last (q_nm g m k sb) n R.1) := by
  unfold fX9_find
  have f1 : sFR T [900] σ (mm_wI σ o9 0 0) := fr_wI fr_refl t9 rfl
  refine pw_sh fun _ => pw_let (st_find9_11 (h.fr f1 c t9 rfl) (ci_wI c t9 (kr_n rfl)) t9 _ (-1) 0 0 rfl (Nat.zero_le _) (Or.inl ⟨rfl, fun i hi => absurd hi (Nat.not_lt_zero _)⟩))
theorem st_open8 {n : Nat} {g : Nat → Nat → Int32} {m : Int32} (h : ∃ st pl P, mm_R σ o8 7 = some st ∧ q_S8 st pl P σ n g) : pw (fX8_open o8 m σ) (fun R => (1 ≤ m.toInt ∧ m.toInt ≤ 8 ∧ ∃ r, oi R.1 = r.toInt ∧ q_first (q_op g m) n r) ∨ (¬ (1 ≤ m.toInt ∧ m.toInt ≤ 8) ∧ oi R.1 = -9999999999)) := by
  obtain ⟨st, pl, P, e7, h⟩ := h
  unfold fX8_open
  have hz := zi_rg m
  have ho : fX8_isOutside (m - 1) 8 = 0 ↔ 1 ≤ m.toInt ∧ m.toInt ≤ 8 := by
    rw [zp.1]
    by_cases hm : m.toInt = -2147483648
    · have : m = -2147483648 := by rw [zi_eq, hm]; rfl
      subst this
      decide
    · rw [zi_m1 (by omega), show (8 : Int32).toInt = 8 from rfl]; omega
  refine pw_ite (fun a => pw_sh fun _ => pw_onS e7 (pw_sh fun _ => pw_onP (pX6_placeOfOpen h) fun q hq => pw_some (Or.inl ⟨(ho.mp a).1, (ho.mp a).2, q.1, (oi_some rfl).1, hq.2⟩))) (fun a => pw_some (Or.inr ⟨fun h => a (ho.mpr h), oi_none rfl⟩))
theorem st_place9 {x1 : Int32} {n : Nat} {s : Nat → Nat} {g : Nat → Nat → Int32} (h : q_S9 o9 s σ n g) (c : sCI T σ) (t9 : T o9 = some 9) {j : Nat} (hj : j < n) (hx1 : x1.toInt = s j) : ∀ (u : Nat) (x : Int32) (y : Nat), x.toInt = y → y ≤ j → pw (fX9_placeOf_2 u o9 x1 x σ) (fun R => R.2 = σ ∧ R.1.toInt = j) := by
  intro u
  induction u with
  | zero => intros; exact pw_none
  | succ u ih =>
    intro x y hx hy
    have hV : q_V (mm_I σ o9 14).toInt (q_F o9 σ) s n g := h
    obtain ⟨v1, v2, v3, v4, v5⟩ := hV
    have ex := zi_p1 (x := x) (by omega)
    have ecl : x.toNatClampNeg = y := by rw [zi_clamp]; omega
    obtain ⟨q15, e15, t15⟩ := ci_ref c t9 15 (κ' := 65) rfl
    unfold fX9_placeOf_2
    refine pw_sh fun _ => pw_ite (fun a => ?_) (fun a => pw_onS e15 (pw_ar fun _ _ => pw_ib fun _ _ => ?_))
    · exfalso
      rw [zi_le, v1] at a
      omega
    · rw [ecl]
      have eg : (mm_I σ q15 y).toInt = s y := by
        rw [← (v3 y (by omega)).2.1]; show _ = (rdA σ o9 15 y).toInt; rw [rdA_eq e15]
      refine pw_ite (fun b => pw_some ⟨rfl, ?_⟩) (fun b => ?_)
      · have : y = j := v4 y j (by omega) hj (by rw [b] at eg; omega)
        show x.toInt = j
        omega
      · by_cases hyj : y = j
        · exfalso
          subst hyj
          exact b (by rw [zi_eq]; omega)
        · exact ih (x + 1) (y + 1) (by omega) (by omega)
theorem st_open9 {n : Nat} {s : Nat → Nat} {g : Nat → Nat → Int32} {m : Int32} (h : q_S9 o9 s σ n g) (c : sCI T σ) (t9 : T o9 = some 9) : pw (fX9_open o9 m σ) (fun R => (1 ≤ m.toInt ∧ m.toInt ≤ 8 ∧ (mm_I R.2 o9 0).toInt = 0 ∧ ((R.1.toInt = -1 ∧ ∀ i, i < n → ¬ q_op g m i) ∨ ∃ j, j < n ∧ q_op g m j ∧ R.1.toInt = j)) ∨ (¬ (1 ≤ m.toInt ∧ m.toInt ≤ 8) ∧ (mm_I R.2 o9 0).toInt = 1)) := by
  unfold fX9_open
  have hin : fX9_in m 1 8 = 0 ↔ ¬ (1 ≤ m.toInt ∧ m.toInt ≤ 8) := zp.2.1 m 1 8
  have h01 : 0 ≤ (fX9_in m 1 8).toInt ∧ (fX9_in m 1 8).toInt ≤ 1 := by
    unfold fX9_in
    split
    · decide
    · split <;> decide
  refine pw_sh fun _ => pw_onP (vX9_goes (p1 := fX9_in m 1 8) c t9 h01).p fun q2 ⟨c2, f2, r2, r3⟩ => ?_
  rw [r2]
  have h2 : q_S9 o9 s q2.2 n g := h.fr f2 c t9 rfl
  refine pw_ite (fun a => pw_some (Or.inr ⟨hin.mp a, ?_⟩)) (fun a => ?_)
  · show (mm_I q2.2 o9 0).toInt = 1
    rw [r3, a]; rfl
  · have hm : 1 ≤ m.toInt ∧ m.toInt ≤ 8 := Decidable.byContradiction fun h => a (hin.mpr h)
    have h0 : (mm_I q2.2 o9 0).toInt = 0 := by
      have : fX9_in m 1 8 ≠ 0 := a
      rw [Ne, zi_eq, show (0 : Int32).toInt = 0 from rfl] at this
      omega
    obtain ⟨oa, eo, to⟩ := ci_ref c2 t9 27 (κ' := 77) rfl
    have er : rdA q2.2 o9 27 m.toInt.toNat = mm_I q2.2 oa m.toNatClampNeg := rdA_eq eo
    have hV : q_V (mm_I q2.2 o9 14).toInt (q_F o9 q2.2) s n g := h2
    refine pw_sh fun _ => pw_onS eo (pw_ar fun _ _ => pw_ib fun _ _ => pw_ite (fun b => pw_some (Or.inl ⟨hm.1, hm.2, h0, Or.inl ⟨rfl, ?_⟩⟩)) (fun b => pw_onS eo (pw_ar fun _ _ => pw_ib fun _ _ => ?_)))
    · rcases hV.2.2.2.2 m hm.1 hm.2 with ⟨i, a1, a2, a3⟩ | ⟨a1, a2⟩
      · exfalso
        have a2' : (rdA q2.2 o9 27 m.toInt.toNat).toInt = s i := a2
        rw [er, b] at a2'
        have : (-1 : Int32).toInt = -1 := rfl
        omega
      · exact a2
    · obtain ⟨j, hj, a2, a3⟩ : ∃ i, i < n ∧ (rdA q2.2 o9 27 m.toInt.toNat).toInt = s i ∧ q_op g m i := by
        rcases hV.2.2.2.2 m hm.1 hm.2 with h' | ⟨a1, -⟩
        · exact h'
        · have a1' : rdA q2.2 o9 27 m.toInt.toNat = -1 := a1
          rw [er] at a1'
          exact absurd a1' b
      rw [er] at a2
      refine pw_onP (show pw (fX9_placeOf o9 (mm_I q2.2 oa m.toNatClampNeg) q2.2) _ from st_place9 h2 c2 t9 hj a2 _ 0 0 rfl (Nat.zero_le _)) fun q12 h12 => pw_some (Or.inl ⟨hm.1, hm.2, ?_, Or.inr ⟨j, hj, a3, h12.2⟩⟩)
      show (mm_I q12.2 o9 0).toInt = 0
      rw [h12.1]; exact h0
end ST22
section ST23
variable {T : Nat → Option Nat} {σ : mm_M} {o8 o9 : Nat}
theorem st_nothing8 {k : Int32} : pw (fX8_nothing o8 k σ) (fun R => (0 ≤ k.toInt ∧ k.toInt ≤ 2 ∧ oi R.1 = (rdA σ o8 6 k.toNatClampNeg).toInt) ∨ (¬ (0 ≤ k.toInt ∧ k.toInt ≤ 2) ∧ oi R.1 = -9999999999)) := by
  unfold fX8_nothing
  have ho : fX8_isOutside k 3 = 0 ↔ 0 ≤ k.toInt ∧ k.toInt ≤ 2 := by rw [zp.1, show (3 : Int32).toInt = 3 from rfl]; omega
  refine pw_ite (fun a => pw_sh fun _ => pw_on fun q e => pw_ar fun _ _ => pw_ib fun _ _ => pw_some (Or.inl ⟨(ho.mp a).1, (ho.mp a).2, ?_⟩)) (fun a => pw_some (Or.inr ⟨fun h => a (ho.mpr h), oi_none rfl⟩))
  rw [rdA_eq e]; exact (oi_some rfl).1
theorem st_nothing9 {k : Int32} (c : sCI T σ) (t9 : T o9 = some 9) : pw (fX9_nothing o9 k σ) (fun R => (0 ≤ k.toInt ∧ k.toInt ≤ 2 ∧ (mm_I R.2 o9 0).toInt = 0 ∧ R.1.toInt = (rdA σ o9 13 k.toNatClampNeg).toInt) ∨ (¬ (0 ≤ k.toInt ∧ k.toInt ≤ 2) ∧ (mm_I R.2 o9 0).toInt = 1)) := by
  unfold fX9_nothing
  have hin : fX9_in k 0 2 = 0 ↔ ¬ (0 ≤ k.toInt ∧ k.toInt ≤ 2) := zp.2.1 k 0 2
  have h01 : 0 ≤ (fX9_in k 0 2).toInt ∧ (fX9_in k 0 2).toInt ≤ 1 := by
    unfold fX9_in
    split
    · decide
    · split <;> decide
  refine pw_sh fun _ => pw_onP (vX9_goes (p1 := fX9_in k 0 2) c t9 h01).p fun q2 ⟨c2, f2, r2, r3⟩ => ?_
  rw [r2]
  refine pw_ite (fun a => pw_some (Or.inr ⟨hin.mp a, ?_⟩)) (fun a => pw_sh fun _ => pw_on fun q e => pw_ar fun _ _ => pw_ib fun _ _ => pw_some (Or.inl ?_))
  · show (mm_I q2.2 o9 0).toInt = 1
    rw [r3, a]; rfl
  · have hm : 0 ≤ k.toInt ∧ k.toInt ≤ 2 := Decidable.byContradiction fun h => a (hin.mpr h)
    refine ⟨hm.1, hm.2, ?_, ?_⟩
    · show (mm_I q2.2 o9 0).toInt = 0
      have : fX9_in k 0 2 ≠ 0 := a
      rw [Ne, zi_eq, show (0 : Int32).toInt = 0 from rfl] at this
      omega
    · show (mm_I q2.2 q k.toNatClampNeg).toInt = _
      rw [← rdA_eq e, rdA_fr f2 c t9 (κ' := 63) rfl rfl rfl]
def q_pg (g : Nat → Nat → Int32) (i : Nat) (w : Int32) : Int32 := if w = 0 then g i 2 else if w = 1 then g i 3 else if w = 2 then g i 4 else if w = 3 then g i 5 else if w = 4 then (if g i 6 = 0 then 0 else 1) else if w = 5 then g i 7 else g i 8
theorem st_page8 {n : Nat} {g : Nat → Nat → Int32} {p w : Int32} (h : ∃ st pl P, mm_R σ o8 7 = some st ∧ q_S8 st pl P σ n g) : pw (fX8_page o8 p w σ) (fun R => ((0 ≤ p.toInt ∧ p.toInt < n ∧ 0 ≤ w.toInt ∧ w.toInt ≤ 6) ∧ oi R.1 = (q_pg g p.toInt.toNat w).toInt) ∨ (¬ (0 ≤ p.toInt ∧ p.toInt < n ∧ 0 ≤ w.toInt ∧ w.toInt ≤ 6) ∧ oi R.1 = -9999999999)) := by
  obtain ⟨st, pl, P, e7, h⟩ := h
  unfold fX8_page
  have ho : fX8_isOutside w 7 = 0 ↔ 0 ≤ w.toInt ∧ w.toInt ≤ 6 := by rw [zp.1, show (7 : Int32).toInt = 7 from rfl]; omega
  refine pw_sh fun _ => pw_onS e7 (pw_sh fun _ => pw_onP (pX6_pageAt h p) fun q hq => ?_)
  obtain ⟨e2, hq⟩ := hq
  rw [e2]
  rcases hq with ⟨a1, a2, a3⟩ | ⟨a1, a3⟩
  · rw [a3]
    refine pw_nu (fun e => by cases e) (fun q' e => ?_)
    have eq := Option.some.inj e
    subst eq
    have hp : p.toInt.toNat < n := by omega
    have F := h.2.2.2.2.1 p.toInt.toNat hp
    refine pw_ite (fun a => ?_) (fun a => pw_some (Or.inr ⟨fun h => a (ho.mpr ⟨h.2.2.1, h.2.2.2⟩), oi_none rfl⟩))
    have hw := ho.mp a
    have ok : 0 ≤ p.toInt ∧ p.toInt < n ∧ 0 ≤ w.toInt ∧ w.toInt ≤ 6 := ⟨a1, a2, hw.1, hw.2⟩
    unfold q_pg
    refine pw_ite (fun b => ?_) (fun b => ?_)
    · rw [if_pos b]; exact pw_sh fun _ => pw_some (Or.inl ⟨ok, by rw [F 2 (by omega) (by omega)]; exact (oi_some rfl).1⟩)
    rw [if_neg b]
    refine pw_ite (fun b => ?_) (fun b => ?_)
    · rw [if_pos b]; exact pw_sh fun _ => pw_some (Or.inl ⟨ok, by rw [F 3 (by omega) (by omega)]; exact (oi_some rfl).1⟩)
    rw [if_neg b]
    refine pw_ite (fun b => ?_) (fun b => ?_)
    · rw [if_pos b]; exact pw_sh fun _ => pw_some (Or.inl ⟨ok, by rw [F 4 (by omega) (by omega)]; exact (oi_some rfl).1⟩)
    rw [if_neg b]
    refine pw_ite (fun b => ?_) (fun b => ?_)
    · rw [if_pos b]; exact pw_sh fun _ => pw_some (Or.inl ⟨ok, by rw [F 5 (by omega) (by omega)]; exact (oi_some rfl).1⟩)
    rw [if_neg b]
    refine pw_ite (fun b => ?_) (fun b => ?_)
    · rw [if_pos b, F 6 (by omega) (by omega)]
      refine pw_sh fun _ => pw_ite (fun d => pw_some (Or.inl ⟨ok, ?_⟩)) (fun d => pw_some (Or.inl ⟨ok, ?_⟩))
      · rw [if_pos d]; exact (oi_some rfl).1
      · rw [if_neg d]; exact (oi_some rfl).1
    rw [if_neg b]
    refine pw_ite (fun b => ?_) (fun b => ?_)
    · rw [if_pos b]; exact pw_sh fun _ => pw_some (Or.inl ⟨ok, by rw [F 7 (by omega) (by omega)]; exact (oi_some rfl).1⟩)
    rw [if_neg b]
    exact pw_sh fun _ => pw_some (Or.inl ⟨ok, by rw [F 8 (by omega) (by omega)]; exact (oi_some rfl).1⟩)
  · rw [a3]
    exact pw_nu (fun _ => pw_some (Or.inr ⟨fun h => a1 ⟨h.1, h.2.1⟩, oi_none rfl⟩)) (fun q' e => by cases e)
theorem st_page9_30 {n : Nat} {s : Nat → Nat} {g : Nat → Nat → Int32} {p w : Int32} (h : q_S9 o9 s σ n g) (ai : q_AI n g) (c : sCI T σ) (t9 : T o9 = some 9) (hp : 0 ≤ p.toInt ∧ p.toInt < n) (hw : 0 ≤ w.toInt ∧ w.toInt ≤ 6) : pw (fX9_page_30 o9 p w 1 o9 σ) (fun R => (mm_I R.2 o9 0).toInt = 0 ∧ R.1.toInt = (q_pg g p.toInt.toNat w).toInt) := by
  unfold fX9_page_30
  refine pw_sh fun _ => pw_onP (vX9_goes (p1 := 1) c t9 (by decide)).p fun q4 ⟨c4, f4, r4, r5⟩ => ?_
  rw [if_neg (by rw [r4]; decide)]
  have h4 : q_S9 o9 s q4.2 n g := h.fr f4 c t9 rfl
  have hV : q_V (mm_I q4.2 o9 14).toInt (q_F o9 q4.2) s n g := h4
  have h0 : (mm_I q4.2 o9 0).toInt = 0 := by rw [r5]; rfl
  have hi : p.toInt.toNat < n := by omega
  have ecl : p.toNatClampNeg = p.toInt.toNat := zi_clamp p
  generalize p.toInt.toNat = i at hi ecl ⊢
  obtain ⟨b1, b2, b3, b4, b5, b6, b7, b8, b9⟩ := hV.2.2.1 i hi
  obtain ⟨q15, e15, t15⟩ := ci_ref c4 t9 15 (κ' := 65) rfl
  obtain ⟨q17, e17, t17⟩ := ci_ref c4 t9 17 (κ' := 67) rfl
  obtain ⟨q18, e18, t18⟩ := ci_ref c4 t9 18 (κ' := 68) rfl
  obtain ⟨q19, e19, t19⟩ := ci_ref c4 t9 19 (κ' := 69) rfl
  obtain ⟨q20, e20, t20⟩ := ci_ref c4 t9 20 (κ' := 70) rfl
  obtain ⟨q21, e21, t21⟩ := ci_ref c4 t9 21 (κ' := 71) rfl
  obtain ⟨q22, e22, t22⟩ := ci_ref c4 t9 22 (κ' := 72) rfl
  obtain ⟨q27, e27, t27⟩ := ci_ref c4 t9 27 (κ' := 77) rfl
  have eg : (mm_I q4.2 q15 i).toInt = s i := by rw [← b2]; show _ = (rdA q4.2 o9 15 i).toInt; rw [rdA_eq e15]
  have egc : (mm_I q4.2 q15 i).toNatClampNeg = s i := by rw [zi_clamp]; omega
  have g17 : mm_I q4.2 q17 (s i) = g i 2 := by rw [← b4]; show _ = rdA q4.2 o9 17 (s i); rw [rdA_eq e17]
  have g18 : mm_I q4.2 q18 (s i) = g i 3 := by rw [← b5]; show _ = rdA q4.2 o9 18 (s i); rw [rdA_eq e18]
  have g19 : mm_I q4.2 q19 (s i) = g i 4 := by rw [← b6]; show _ = rdA q4.2 o9 19 (s i); rw [rdA_eq e19]
  have g20 : mm_I q4.2 q20 (s i) = g i 5 := by rw [← b7]; show _ = rdA q4.2 o9 20 (s i); rw [rdA_eq e20]
  have g21 : mm_I q4.2 q21 (s i) = g i 7 := by rw [← b8]; show _ = rdA q4.2 o9 21 (s i); rw [rdA_eq e21]
  have g22 : mm_I q4.2 q22 (s i) = g i 8 := by rw [← b9]; show _ = rdA q4.2 o9 22 (s i); rw [rdA_eq e22]
  refine pw_sh fun _ => pw_onS e15 (pw_ar fun _ _ => pw_ib fun _ _ => ?_)
  rw [ecl, egc]
  unfold q_pg
  refine pw_ite (fun b => ?_) (fun b => ?_)
  · rw [if_pos b]; exact pw_onS e17 (pw_ar fun _ _ => pw_ib fun _ _ => pw_some ⟨h0, congrArg Int32.toInt g17⟩)
  rw [if_neg b]
  refine pw_ite (fun b => ?_) (fun b => ?_)
  · rw [if_pos b]; exact pw_onS e18 (pw_ar fun _ _ => pw_ib fun _ _ => pw_some ⟨h0, congrArg Int32.toInt g18⟩)
  rw [if_neg b]
  refine pw_ite (fun b => ?_) (fun b => ?_)
  · rw [if_pos b]; exact pw_onS e19 (pw_ar fun _ _ => pw_ib fun _ _ => pw_some ⟨h0, congrArg Int32.toInt g19⟩)
  rw [if_neg b]
  refine pw_ite (fun b => ?_) (fun b => ?_)
  · rw [if_pos b]; exact pw_onS e20 (pw_ar fun _ _ => pw_ib fun _ _ => pw_some ⟨h0, congrArg Int32.toInt g20⟩)
  rw [if_neg b]
  refine pw_ite (fun b => ?_) (fun b => ?_)
  · rw [if_pos b]
    refine pw_onS e17 (pw_ar fun _ _ => pw_ib fun _ _ => pw_onS e27 (pw_ar fun _ _ => pw_ib fun _ _ => ?_))
    rw [g17]
    have hm := ai.1 i hi
    have er : rdA q4.2 o9 27 (g i 2).toInt.toNat = mm_I q4.2 q27 (g i 2).toNatClampNeg := rdA_eq e27
    have key : mm_I q4.2 q27 (g i 2).toNatClampNeg = mm_I q4.2 q15 i ↔ g i 6 ≠ 0 := by
      rw [zi_eq, eg, ← er]
      rcases hV.2.2.2.2 (g i 2) hm.1 hm.2 with ⟨j, a1, a2, a3⟩ | ⟨a1, a2⟩
      · have a2' : (rdA q4.2 o9 27 (g i 2).toInt.toNat).toInt = s j := a2
        rw [a2']
        constructor
        · intro e
          have : j = i := hV.2.2.2.1 j i a1 hi (by omega)
          subst this; exact a3.1
        · intro h6
          have : j = i := ai.2.1 j i a1 hi a3.1 h6 a3.2
          subst this; rfl
      · have a1' : rdA q4.2 o9 27 (g i 2).toInt.toNat = -1 := a1
        rw [a1', show (-1 : Int32).toInt = -1 from rfl]
        constructor
        · intro e; omega
        · intro h6; exact absurd ⟨h6, rfl⟩ (a2 i hi)
    refine pw_ite (fun d => pw_some ⟨h0, ?_⟩) (fun d => pw_some ⟨h0, ?_⟩)
    · rw [if_neg (key.mp d)]
    · rw [if_pos (Decidable.byContradiction fun h => d (key.mpr h))]
  rw [if_neg b]
  refine pw_ite (fun b => ?_) (fun b => ?_)
  · rw [if_pos b]; exact pw_onS e21 (pw_ar fun _ _ => pw_ib fun _ _ => pw_some ⟨h0, congrArg Int32.toInt g21⟩)
  rw [if_neg b]
  exact pw_onS e22 (pw_ar fun _ _ => pw_ib fun _ _ => pw_some ⟨h0, congrArg Int32.toInt g22⟩)
theorem st_page9 {n : Nat} {s : Nat → Nat} {g : Nat → Nat → Int32} {p w : Int32} (h : q_S9 o9 s σ n g) (ai : q_AI n g) (c : sCI T σ) (t9 : T o9 = some 9) : pw (fX9_page o9 p w σ) (fun R => ((0 ≤ p.toInt ∧ p.toInt < n ∧ 0 ≤ w.toInt ∧ w.toInt ≤ 6) ∧ (mm_I R.2 o9 0).toInt = 0 ∧ R.1.toInt = (q_pg g p.toInt.toNat w).toInt) ∨ (¬ (0 ≤ p.toInt ∧ p.toInt < n ∧ 0 ≤ w.toInt ∧ w.toInt ≤ 6) ∧ (mm_I R.2 o9 0).toInt = 1)) := by
  unfold fX9_page
  have h14 : (mm_I σ o9 14).toInt = n := h.1
  have em := zi_m1 (x := mm_I σ o9 14) (by omega)
  have hin1 : fX9_in p 0 (mm_I σ o9 14 - 1) = 0 ↔ ¬ (0 ≤ p.toInt ∧ p.toInt < n) := by
    rw [zp.2.1, em, h14, show (0 : Int32).toInt = 0 from rfl]; omega
  have hin2 : fX9_in w 0 6 = 0 ↔ ¬ (0 ≤ w.toInt ∧ w.toInt ≤ 6) := zp.2.1 w 0 6
  have bad : ¬ (0 ≤ p.toInt ∧ p.toInt < n ∧ 0 ≤ w.toInt ∧ w.toInt ≤ 6) → pw (fX9_page_29 o9 p w o9 σ) (fun R => ((0 ≤ p.toInt ∧ p.toInt < n ∧ 0 ≤ w.toInt ∧ w.toInt ≤ 6) ∧ (mm_I R.2 o9 0).toInt = 0 ∧ R.1.toInt = (q_pg g p.toInt.toNat w).toInt) ∨ (¬ (0 ≤ p.toInt ∧ p.toInt < n ∧ 0 ≤ w.toInt ∧ w.toInt ≤ 6) ∧ (mm_I R.2 o9 0).toInt = 1)) := by
    intro hb
    unfold fX9_page_29 fX9_page_30
    refine pw_sh fun _ => pw_onP (vX9_goes (p1 := 0) c t9 (by decide)).p fun q4 ⟨c4, f4, r4, r5⟩ => ?_
    rw [if_pos r4]
    exact pw_some (Or.inr ⟨hb, by show (mm_I q4.2 o9 0).toInt = 1; rw [r5]; rfl⟩)
  refine pw_sh fun _ => pw_ite (fun a => bad (fun h => (hin1.mp a) ⟨h.1, h.2.1⟩)) (fun a => pw_ite (fun b => bad (fun h => (hin2.mp b) h.2.2)) (fun b => ?_))
  have h1 : 0 ≤ p.toInt ∧ p.toInt < n := Decidable.byContradiction fun h => a (hin1.mpr h)
  have h2 : 0 ≤ w.toInt ∧ w.toInt ≤ 6 := Decidable.byContradiction fun h => b (hin2.mpr h)
  exact (st_page9_30 h ai c t9 h1 h2).mono (fun R hR => Or.inl ⟨⟨h1.1, h1.2, h2.1, h2.2⟩, hR⟩)
end ST23
