/-! rows and links of the reference's slots: 23 signs, 24 rows there, 25 links, 26 links there -/
def ry (o9 : Nat) (σ : mm_M) (sl : Nat) (u : Nat → Int32) : Prop := (∀ r, r < 25 → rdA σ o9 24 (25 * sl + r) = u (100 + r)) ∧ (∀ r, r < 25 → ∀ c, c < 40 → (if rdA σ o9 24 (25 * sl + r) = 0 then 0 else rdA σ o9 23 (1000 * sl + (40 * r + c))) = u (1000 + (40 * r + c))) ∧ (∀ k, k < 6 → ∀ w, w < 3 → (if rdA σ o9 26 (6 * sl + k) = 0 then -1 else rdA σ o9 25 (18 * sl + (3 * k + w))) = u (200 + (3 * k + w)))
def sag (o9 : Nat) (σ R : mm_M) (sl : Nat) : Prop := (∀ r, r < 25 → rdA R o9 24 (25 * sl + r) = rdA σ o9 24 (25 * sl + r)) ∧ (∀ j, j < 1000 → rdA R o9 23 (1000 * sl + j) = rdA σ o9 23 (1000 * sl + j)) ∧ (∀ k, k < 6 → rdA R o9 26 (6 * sl + k) = rdA σ o9 26 (6 * sl + k)) ∧ (∀ k, k < 18 → rdA R o9 25 (18 * sl + k) = rdA σ o9 25 (18 * sl + k))
theorem y_127 : ∀ k : Fin 128, ((Int32.ofNat k.val).toInt8.toInt32).toInt8.toInt32 = Int32.ofNat k.val := by decide +kernel
theorem f_128 (x : Int32) : ∃ k : Fin 128, x &&& 127 = Int32.ofNat k.val := by
  have h := zi_and x 127 (by decide)
  have e : (127 : Int32).toInt = 127 := rfl
  rw [e] at h
  refine ⟨⟨(x &&& 127).toInt.toNat, by omega⟩, ?_⟩
  have := Int32.ofNat_toNatClampNeg (x := x &&& 127)
  rw [zi_clamp] at this
  exact (this (by rw [zi_le]; exact h.1)).symm
theorem y_b (x : Int32) : ((x &&& 127).toInt8.toInt32).toInt8.toInt32 = x &&& 127 := by
  obtain ⟨k, e⟩ := f_128 x; rw [e]; exact y_127 k
theorem o_8 : ∀ d f : Fin 16, ∃ o : Fin 8, Int32.ofNat d.val / 8 + 2 * (Int32.ofNat f.val / 4) = Int32.ofNat o.val := by decide
theorem m_8 : ∀ m o : Fin 8, fX9_mag ((Int32.ofNat (m.val + 1) - Int32.ofNat (m.val + 1) / 8 * 8) ^^^ Int32.ofNat o.val) = fX8_magazineOf (Int32.ofNat (m.val + 1) ^^^ Int32.ofNat o.val) := by decide
theorem m_lk {m d f : Int32} (hm : 1 ≤ m.toInt ∧ m.toInt ≤ 8) (hd : ∃ k : Fin 16, d = Int32.ofNat k.val) (hf : ∃ k : Fin 16, f = Int32.ofNat k.val) : fX9_mag ((m - m / 8 * 8) ^^^ (d / 8 + 2 * (f / 4))) = fX8_magazineOf (m ^^^ (d / 8 + 2 * (f / 4))) := by
  obtain ⟨kd, rfl⟩ := hd
  obtain ⟨kf, rfl⟩ := hf
  obtain ⟨o, e⟩ := o_8 kd kf
  rw [e]
  have := m_8 ⟨(m.toInt - 1).toNat, by omega⟩ o
  have em : Int32.ofNat ((m.toInt - 1).toNat + 1) = m := by
    have := Int32.ofNat_toNatClampNeg (x := m) (by rw [zi_le, show (0 : Int32).toInt = 0 from rfl]; omega)
    rw [zi_clamp] at this
    rw [show (m.toInt - 1).toNat + 1 = m.toInt.toNat by omega]; exact this
  rw [em] at this
  exact this
section TY
variable {T : Nat → Option Nat} {σ R : mm_M} {o9 : Nat}
theorem ry.sag {sl : Nat} {u : Nat → Int32} (h : ry o9 σ sl u) (k : sag o9 σ R sl) : ry o9 R sl u := by
  refine ⟨fun r hr => (k.1 r hr).trans (h.1 r hr), fun r hr c hc => ?_, fun j hj w hw => ?_⟩
  · rw [k.1 r hr, k.2.1 _ (by omega)]; exact h.2.1 r hr c hc
  · rw [k.2.2.1 j hj, k.2.2.2 _ (by omega)]; exact h.2.2 j hj w hw
theorem sag_of {sl : Nat} (h : ∀ j i, 23 ≤ j ∧ j ≤ 26 → rdA R o9 j i = rdA σ o9 j i) : sag o9 σ R sl := ⟨fun r _ => h 24 _ (by omega), fun j _ => h 23 _ (by omega), fun k _ => h 26 _ (by omega), fun k _ => h 25 _ (by omega)⟩
theorem sag_t {s : mm_M} {sl : Nat} (h : sag o9 σ s sl) (k : sag o9 s R sl) : sag o9 σ R sl := ⟨fun r hr => (k.1 r hr).trans (h.1 r hr), fun j hj => (k.2.1 j hj).trans (h.2.1 j hj), fun j hj => (k.2.2.1 j hj).trans (h.2.2.1 j hj), fun j hj => (k.2.2.2 j hj).trans (h.2.2.2 j hj)⟩
theorem q_ey.sag {sl fr sl' : Nat} (h : q_ey o9 sl fr σ R) (hn : sl' ≠ sl) : sag o9 σ R sl' := by
  refine ⟨fun r hr => ?_, fun j hj => ?_, fun k hk => ?_, fun k hk => ?_⟩
  · rw [h 24 _ (by omega), if_neg (by omega), if_neg (by omega)]
  · rw [h 23 _ (by omega), if_neg (by omega), if_neg (by omega)]
  · rw [h 26 _ (by omega), if_neg (by omega), if_neg (by omega)]
  · rw [h 25 _ (by omega), if_neg (by omega), if_neg (by omega)]
theorem q_ey.new {sl : Nat} {m k s : Int32} (h : q_ey o9 sl 0 σ R) : ry o9 R sl (q_new m k s) := by
  have z : ∀ r, r < 25 → rdA R o9 24 (25 * sl + r) = 0 := fun r hr => by rw [h 24 _ (by omega), if_pos (by omega)]
  have y : ∀ k, k < 6 → rdA R o9 26 (6 * sl + k) = 0 := fun k hk => by rw [h 26 _ (by omega), if_neg (by omega), if_pos (by omega)]
  refine ⟨fun r hr => ?_, fun r hr c hc => ?_, fun j hj w hw => ?_⟩
  · rw [z r hr]; unfold q_new; rw [if_neg (by omega), if_neg (by omega), if_neg (by omega), if_neg (by omega)]
  · rw [z r hr, if_pos rfl]; unfold q_new; rw [if_neg (by omega), if_neg (by omega), if_neg (by omega), if_neg (by omega)]
  · rw [y j hj, if_pos rfl]; unfold q_new; rw [if_neg (by omega), if_neg (by omega), if_neg (by omega), if_pos (by omega)]
theorem q_ey.ers {sl : Nat} {u : Nat → Int32} (h : q_ey o9 sl 1 σ R) (k : ry o9 σ sl u) : ry o9 R sl (er u) := by
  have z : ∀ r, r < 25 → rdA R o9 24 (25 * sl + r) = if 1 ≤ r then 0 else rdA σ o9 24 (25 * sl + r) := fun r hr => by
    rw [h 24 _ (by omega)]
    by_cases e : 1 ≤ r
    · rw [if_pos (by omega), if_pos e]
    · rw [if_neg (by omega), if_neg (by omega), if_neg e]
  have y : ∀ k, k < 6 → rdA R o9 26 (6 * sl + k) = 0 := fun k hk => by rw [h 26 _ (by omega), if_neg (by omega), if_pos (by omega)]
  have x : ∀ j, rdA R o9 23 j = rdA σ o9 23 j := fun j => by rw [h 23 _ (by omega), if_neg (by omega), if_neg (by omega)]
  refine ⟨fun r hr => ?_, fun r hr c hc => ?_, fun j hj w hw => ?_⟩
  · rw [z r hr]; unfold er
    by_cases e : 1 ≤ r
    · rw [if_pos e, if_pos (by omega)]
    · rw [if_neg e, if_neg (by omega), if_neg (by omega), if_neg (by omega)]; exact k.1 r hr
  · rw [z r hr, x]; unfold er
    by_cases e : 1 ≤ r
    · rw [if_pos e, if_pos rfl, if_neg (by omega), if_pos (by omega)]
    · rw [if_neg e]
      rw [if_neg (c := 101 ≤ 1000 + (40 * r + c) ∧ 1000 + (40 * r + c) < 125) (by omega), if_neg (c := 1040 ≤ 1000 + (40 * r + c) ∧ 1000 + (40 * r + c) < 2000) (by omega), if_neg (c := 200 ≤ 1000 + (40 * r + c) ∧ 1000 + (40 * r + c) < 218) (by omega)]
      exact k.2.1 r hr c hc
  · rw [y j hj, if_pos rfl]; unfold er; rw [if_neg (by omega), if_neg (by omega), if_pos (by omega)]
theorem lX9_text_28 (t9 : T o9 = some 9) {x1 x2 x3 x4 x5 x6 x7 : Int32} {sl r fr col n at_ : Nat} {t : Nat → Int32} (h1 : x1.toInt = sl) (hsl : sl < 20) (h2 : x2.toInt = r) (hr : r < 25) (h3 : x3.toInt = fr) (h4 : x4.toInt = col) (h5 : x5.toInt = n) (h6 : x6.toInt = at_) (hb : fr + n ≤ 60 ∧ col + n ≤ 40 ∧ at_ ≤ 20000) : ∀ (u : Nat) (x8 : Int32) (k : Nat) (σ : mm_M), sCI T σ → (∀ j, rdA σ o9 11 j &&& 255 = t j) → x8.toInt = k → k ≤ n → pw (fX9_text_28 u o9 x1 x2 x3 x4 x5 x6 x7 x8 σ) (fun R => (∀ i, rdA R o9 23 i = if at_ + col + k ≤ i ∧ i < at_ + col + n then (if fX8_isRight (t (fr + (i - (at_ + col)))) = 0 then (if x7 = 0 then 32 else rdA σ o9 23 i) else t (fr + (i - (at_ + col))) &&& 127) else rdA σ o9 23 i) ∧ (∀ i, rdA R o9 24 i = if i = 25 * sl + r then 1 else rdA σ o9 24 i) ∧ ∀ j i, 25 ≤ j ∧ j ≤ 26 → rdA R o9 j i = rdA σ o9 j i) := by
  intro u
  induction u with
  | zero => intros; exact pw_none
  | succ u ih =>
    intro x8 k σ c ht hk hkn
    unfold fX9_text_28
    have e8 := zi_p1 (x := x8) (by omega)
    obtain ⟨q24, e24, t24⟩ := ci_ref c t9 24 (κ' := 74) rfl
    obtain ⟨q11, e11, t11⟩ := ci_ref c t9 11 (κ' := 61) rfl
    obtain ⟨q23, e23, t23⟩ := ci_ref c t9 23 (κ' := 73) rfl
    refine pw_ite (fun a => pw_sh fun _ => pw_onS e24 (pw_ar fun _ _ => pw_ib fun _ _ => pw_let (pw_some ?_))) (fun a => pw_sh fun _ => pw_onS e11 (pw_ar fun _ _ => pw_ib fun _ _ => ?_))
    · rw [zi_le] at a
      rw [zo_nar1, (zi_ab (a := 25) (n := 25) rfl h1 h2 (by omega) hsl (by omega)).2]
      refine ⟨fun i => ?_, fun i => ?_, fun j i hj => ?_⟩
      · rw [q_w c t9 (k0 := 24) rfl e24 (q_kr2 (k := 23) (by omega)), if_neg (by omega), if_neg (by omega)]
      · rw [q_w c t9 (k0 := 24) rfl e24 (q_kr2 (k := 24) (by omega))]
        by_cases e : i = 25 * sl + r
        · rw [if_pos ⟨rfl, e⟩, if_pos e]
        · rw [if_neg (fun h => e h.2), if_neg e]
      · rw [q_w c t9 (k0 := 24) rfl e24 (q_kr2 (by omega)), if_neg (by omega)]
    rw [zi_le] at a
    have ei : (x3 + x8).toNatClampNeg = fr + k := by rw [zi_clamp, zi_add, h3, hk, zi_bm (by omega) (by omega)]; omega
    have ew : (x6 + x4 + x8).toNatClampNeg = at_ + col + k := by
      have : (x6 + x4).toInt = at_ + col := by rw [zi_add, h6, h4, zi_bm (by omega) (by omega)]
      rw [zi_clamp, zi_add, this, hk, zi_bm (by omega) (by omega)]; omega
    have et : mm_I σ q11 (fr + k) &&& 255 = t (fr + k) := by rw [← rdA_eq e11]; exact ht _
    rw [ei, et]
    refine pw_onS (po_isOdd (t (fr + k)) σ) ?_
    have step : ∀ (σ' : mm_M), sCI T σ' → (∀ j, rdA σ' o9 11 j = rdA σ o9 11 j) → (∀ j i, 24 ≤ j ∧ j ≤ 26 → rdA σ' o9 j i = rdA σ o9 j i) → (∀ i, rdA σ' o9 23 i = if i = at_ + col + k then (if fX8_isRight (t (fr + k)) = 0 then (if x7 = 0 then 32 else rdA σ o9 23 i) else t (fr + k) &&& 127) else rdA σ o9 23 i) → pw (fX9_text_28 u o9 x1 x2 x3 x4 x5 x6 x7 (x8 + 1) σ') (fun R => (∀ i, rdA R o9 23 i = if at_ + col + k ≤ i ∧ i < at_ + col + n then (if fX8_isRight (t (fr + (i - (at_ + col)))) = 0 then (if x7 = 0 then 32 else rdA σ o9 23 i) else t (fr + (i - (at_ + col))) &&& 127) else rdA σ o9 23 i) ∧ (∀ i, rdA R o9 24 i = if i = 25 * sl + r then 1 else rdA σ o9 24 i) ∧ ∀ j i, 25 ≤ j ∧ j ≤ 26 → rdA R o9 j i = rdA σ o9 j i) := by
      intro σ' c' s11 s24 s23
      refine (ih (x8 + 1) (k + 1) σ' c' (fun j => by rw [s11]; exact ht j) (by omega) (by omega)).mono (fun R hR => ⟨fun i => ?_, fun i => ?_, fun j i hj => ?_⟩)
      · rw [hR.1 i, s23 i]
        by_cases e : i = at_ + col + k
        · rw [if_neg (by omega), if_pos e, if_pos (c := at_ + col + k ≤ i ∧ i < at_ + col + n) (by omega), show i - (at_ + col) = k by omega]
        · rw [if_neg e]
          by_cases d : at_ + col + (k + 1) ≤ i ∧ i < at_ + col + n
          · rw [if_pos d, if_pos (c := at_ + col + k ≤ i ∧ i < at_ + col + n) (by omega)]
          · rw [if_neg d, if_neg (c := at_ + col + k ≤ i ∧ i < at_ + col + n) (by omega)]
      · rw [hR.2.1 i, s24 24 i (by omega)]
      · rw [hR.2.2 j i hj, s24 j i (by omega)]
    have wr : ∀ v : Int32, (∀ i, rdA (mm_wI σ q23 (at_ + col + k) v) o9 23 i = if i = at_ + col + k then v else rdA σ o9 23 i) ∧ (∀ j i, 24 ≤ j ∧ j ≤ 26 → rdA (mm_wI σ q23 (at_ + col + k) v) o9 j i = rdA σ o9 j i) ∧ (∀ j, rdA (mm_wI σ q23 (at_ + col + k) v) o9 11 j = rdA σ o9 11 j) := fun v => ⟨fun i => by
        rw [q_w c t9 (k0 := 23) rfl e23 (q_kr2 (k := 23) (by omega))]
        by_cases e : i = at_ + col + k
        · rw [if_pos ⟨rfl, e⟩, if_pos e]
        · rw [if_neg (fun h => e h.2), if_neg e], fun j i hj => by rw [q_w c t9 (k0 := 23) rfl e23 (q_kr2 (by omega)), if_neg (by omega)], fun j => rdA_k c t9 (κ' := 61) rfl t23 (by decide)⟩
    show pw (if fX8_isRight (t (fr + k)) = 0 then _ else _) _
    refine pw_ite (fun b => pw_ite (fun d => pw_sh fun _ => pw_onS e23 (pw_ar fun _ _ => pw_ib fun _ _ => pw_let ?_)) (fun d => ?_)) (fun b => pw_sh fun _ => pw_onS e23 (pw_ar fun _ _ => pw_ib fun _ _ => pw_let ?_))
    · rw [ew]
      obtain ⟨w1, w2, w3⟩ := wr ((32 : Int32).toInt8.toInt32)
      refine step _ (ci_wI c t23 (kr_n rfl)) w3 w2 (fun i => ?_)
      rw [w1 i, if_pos b, if_pos d]; rfl
    · refine step σ c (fun _ => rfl) (fun _ _ _ => rfl) (fun i => ?_)
      rw [if_pos b, if_neg d]
      split <;> rfl
    · rw [ew]
      have eb : ((t (fr + k) &&& 127).toInt8.toInt32).toInt8.toInt32 = t (fr + k) &&& 127 := y_b _
      obtain ⟨w1, w2, w3⟩ := wr (((t (fr + k) &&& 127).toInt8.toInt32).toInt8.toInt32)
      refine step _ (ci_wI c t23 (kr_n rfl)) w3 w2 (fun i => ?_)
      rw [w1 i, if_neg b, eb]
theorem lX9_text {x1 x2 x3 x4 x5 : Int32} {sl r fr col n : Nat} {t : Nat → Int32} (c : sCI T σ) (t9 : T o9 = some 9) (h1 : x1.toInt = sl) (hsl : sl < 20) (h2 : x2.toInt = r) (hr : r < 25) (h3 : x3.toInt = fr) (h4 : x4.toInt = col) (h5 : x5.toInt = n) (hb : fr + n ≤ 60 ∧ col + n ≤ 40) (ht : ∀ j, rdA σ o9 11 j &&& 255 = t j) : pw (fX9_text o9 x1 x2 x3 x4 x5 σ) (fun R => (∀ i, rdA R o9 23 i = if 1000 * sl + 40 * r + col ≤ i ∧ i < 1000 * sl + 40 * r + col + n then (if fX8_isRight (t (fr + (i - (1000 * sl + 40 * r + col)))) = 0 then (if rdA σ o9 24 (25 * sl + r) = 0 then 32 else rdA σ o9 23 i) else t (fr + (i - (1000 * sl + 40 * r + col))) &&& 127) else rdA σ o9 23 i) ∧ (∀ i, rdA R o9 24 i = if i = 25 * sl + r then 1 else rdA σ o9 24 i) ∧ ∀ j i, 25 ≤ j ∧ j ≤ 26 → rdA R o9 j i = rdA σ o9 j i) := by
  unfold fX9_text
  obtain ⟨q24, e24, t24⟩ := ci_ref c t9 24 (κ' := 74) rfl
  have h40 : (40 * x2).toInt = 40 * r := by rw [zi_mul, h2, show (40 : Int32).toInt = 40 from rfl, zi_bm (by omega) (by omega)]
  have h6 : (1000 * x1 + 40 * x2).toInt = ((1000 * sl + 40 * r : Nat) : Int) := by
    have := (zi_ab (a := 1000) (n := 1000) (x := x1) (y := 40 * x2) (k := 40 * r) rfl h1 (by rw [h40]; omega) (by omega) hsl (by omega)).1
    rw [this]; omega
  refine pw_sh fun _ => pw_onS e24 (pw_ar fun _ _ => pw_ib fun _ _ => ?_)
  rw [(zi_ab (a := 25) (n := 25) rfl h1 h2 (by omega) hsl (by omega)).2, ← rdA_eq e24]
  exact lX9_text_28 t9 h1 hsl h2 hr h3 h4 h5 h6 ⟨hb.1, hb.2, by omega⟩ _ 0 0 σ c ht rfl (Nat.zero_le _)
/-- a row of text on a slot -/
theorem ry_text {sl r : Nat} {t u : Nat → Int32} (hr : r < 25) (k : ry o9 σ sl u) (h1 : ∀ i, rdA R o9 23 i = if 1000 * sl + 40 * r + 0 ≤ i ∧ i < 1000 * sl + 40 * r + 0 + 40 then (if fX8_isRight (t (2 + (i - (1000 * sl + 40 * r + 0)))) = 0 then (if rdA σ o9 24 (25 * sl + r) = 0 then 32 else rdA σ o9 23 i) else t (2 + (i - (1000 * sl + 40 * r + 0))) &&& 127) else rdA σ o9 23 i) (h2 : ∀ i, rdA R o9 24 i = if i = 25 * sl + r then 1 else rdA σ o9 24 i) (h3 : ∀ j i, 25 ≤ j ∧ j ≤ 26 → rdA R o9 j i = rdA σ o9 j i) : ry o9 R sl (fil t 2 0 r u) := by
  have ne1 : (1 : Int32) ≠ 0 := by decide
  refine ⟨fun r' hr' => ?_, fun r' hr' cc hcc => ?_, fun j hj w hw => ?_⟩
  · rw [h2]; unfold fil
    by_cases e : r' = r
    · rw [if_pos (by omega), if_pos (by omega)]
    · rw [if_neg (by omega), if_neg (by omega), if_neg (by omega)]; exact k.1 r' hr'
  · rw [h2, h1]; unfold fil
    rw [if_neg (c := 1000 + (40 * r' + cc) = 100 + r) (by omega)]
    by_cases e : r' = r
    · subst e
      rw [if_pos (c := 25 * sl + r' = 25 * sl + r') rfl, if_neg ne1, if_pos (c := 1000 * sl + 40 * r' + 0 ≤ 1000 * sl + (40 * r' + cc) ∧ 1000 * sl + (40 * r' + cc) < 1000 * sl + 40 * r' + 0 + 40) (by omega), if_pos (c := 1000 + 40 * r' ≤ 1000 + (40 * r' + cc) ∧ 1000 + (40 * r' + cc) < 1000 + 40 * r' + 40) (by omega)]
      unfold tsg
      rw [if_neg (c := 1000 + (40 * r' + cc) - (1000 + 40 * r') < 0) (by omega), show 1000 * sl + (40 * r' + cc) - (1000 * sl + 40 * r' + 0) = cc by omega, show 2 + (1000 + (40 * r' + cc) - (1000 + 40 * r')) - 0 = 2 + cc by omega]
      have k1 := k.1 r' hr'
      have k2 := k.2.1 r' hr' cc hcc
      rw [k1] at k2 ⊢
      by_cases z : u (100 + r') = 0
      · rw [if_pos z, if_pos z]
      · rw [if_neg z] at k2
        rw [if_neg z, if_neg z, k2]
    · rw [if_neg (c := 25 * sl + r' = 25 * sl + r) (by omega), if_neg (c := 1000 * sl + 40 * r + 0 ≤ 1000 * sl + (40 * r' + cc) ∧ 1000 * sl + (40 * r' + cc) < 1000 * sl + 40 * r + 0 + 40) (by omega), if_neg (c := 1000 + 40 * r ≤ 1000 + (40 * r' + cc) ∧ 1000 + (40 * r' + cc) < 1000 + 40 * r + 40) (by omega)]
      exact k.2.1 r' hr' cc hcc
  · rw [h3 26 _ (by omega), h3 25 _ (by omega)]; unfold fil
    rw [if_neg (c := 200 + (3 * j + w) = 100 + r) (by omega), if_neg (c := 1000 + 40 * r ≤ 200 + (3 * j + w) ∧ 200 + (3 * j + w) < 1000 + 40 * r + 40) (by omega)]
    exact k.2.2 j hj w hw
theorem sag_text {sl r sl' : Nat} {col n : Nat} {g : Nat → Int32} (hn : sl' ≠ sl) (hr : r < 25) (hcn : col + n ≤ 40) (h1 : ∀ i, ¬ (1000 * sl + 40 * r + col ≤ i ∧ i < 1000 * sl + 40 * r + col + n) → rdA R o9 23 i = rdA σ o9 23 i) (h2 : ∀ i, rdA R o9 24 i = if i = 25 * sl + r then 1 else rdA σ o9 24 i) (h3 : ∀ j i, 25 ≤ j ∧ j ≤ 26 → rdA R o9 j i = rdA σ o9 j i) : sag o9 σ R sl' := by
  refine ⟨fun r' hr' => ?_, fun j hj => h1 _ (by omega), fun k _ => h3 26 _ (by omega), fun k _ => h3 25 _ (by omega)⟩
  rw [h2, if_neg (by omega)]
end TY
section TZ
variable {T : Nat → Option Nat} {σ R : mm_M} {o9 : Nat}
theorem ry.cg {sl : Nat} {u v : Nat → Int32} (h : ry o9 σ sl u) (e : ∀ f, 100 ≤ f → u f = v f) : ry o9 σ sl v :=
  ⟨fun r hr => (h.1 r hr).trans (e _ (by omega)), fun r hr c hc => (h.2.1 r hr c hc).trans (e _ (by omega)), fun k hk w hw => (h.2.2 k hk w hw).trans (e _ (by omega))⟩
theorem lX9_275 (t9 : T o9 = some 9) {x1 x2 x3 x4 x5 x6 : Int32} {sl : Nat} (h6 : x6.toInt = sl) (hsl : sl < 20) : ∀ (u : Nat) (x7 : Int32) (k : Nat) (σ : mm_M), sCI T σ → x7.toInt = k → k ≤ 8 → pw (fX9_header_275 u o9 x1 x2 x3 x4 x5 x6 x7 σ) (fun R => (∀ i, rdA R o9 23 i = if 1000 * sl + k ≤ i ∧ i < 1000 * sl + 8 then 32 else rdA σ o9 23 i) ∧ ∀ j i, 24 ≤ j ∧ j ≤ 26 → rdA R o9 j i = rdA σ o9 j i) := by
  intro u
  induction u with
  | zero => intros; exact pw_none
  | succ u ih =>
    intro x7 k σ c hk hk8
    unfold fX9_header_275
    have e7 := zi_p1 (x := x7) (by omega)
    obtain ⟨q, e, tq⟩ := ci_ref c t9 23 (κ' := 73) rfl
    refine pw_ite (fun a => pw_some ⟨fun i => ?_, fun _ _ _ => rfl⟩) (fun a => pw_sh fun _ => pw_onS e (pw_ar fun _ _ => pw_ib fun _ _ => pw_let ?_))
    · rw [zi_le] at a; simp only [Int32.reduceToInt] at a; rw [if_neg (by omega)]
    rw [zi_le] at a
    simp only [Int32.reduceToInt] at a
    rw [(zi_ab (a := 1000) (n := 1000) rfl h6 hk (by omega) hsl (by omega)).2]
    refine (ih (x7 + 1) (k + 1) _ (ci_wI c tq (kr_n rfl)) (by omega) (by omega)).mono (fun R hR => ⟨fun i => ?_, fun j i hj => ?_⟩)
    · rw [hR.1 i, q_w c t9 (k0 := 23) rfl e (q_kr2 (k := 23) (by omega))]
      by_cases d : i = 1000 * sl + k
      · rw [if_neg (by omega), if_pos ⟨rfl, d⟩, if_pos (by omega)]; rfl
      · rw [if_neg (c := 23 = 23 ∧ i = 1000 * sl + k) (fun h => d h.2)]
        by_cases d' : 1000 * sl + (k + 1) ≤ i ∧ i < 1000 * sl + 8
        · rw [if_pos d', if_pos (by omega)]
        · rw [if_neg d', if_neg (by omega)]
    · rw [hR.2 j i hj, q_w c t9 (k0 := 23) rfl e (q_kr2 (by omega)), if_neg (by omega)]
theorem rX9_259 (c : sCI T σ) (t9 : T o9 = some 9) {x1 x2 x3 x4 x5 x6 : Int32} {sl : Nat} {t u : Nat → Int32} (h6 : x6.toInt = sl) (hsl : sl < 20) (ht : ∀ j, rdA σ o9 11 j &&& 255 = t j) (k : ry o9 σ sl u) : pw (fX9_header_259 o9 x1 x2 x3 x4 x5 x6 σ) (fun R => ry o9 R sl (fil t 10 8 0 u) ∧ ∀ sl', sl' ≠ sl → sag o9 σ R sl') := by
  unfold fX9_header_259
  refine pw_sh fun _ => pw_onP (fun y e => And.intro ((sX9_text (p2 := 0) (p3 := 10) (p4 := 8) (p5 := 32) c t9 ⟨by omega, by omega⟩ (by decide) (by decide) (by decide)).p y e) (lX9_text (r := 0) (fr := 10) (col := 8) (n := 32) c t9 h6 hsl rfl (by omega) rfl rfl rfl (by omega) ht y e)) fun s2 hh => ?_
  obtain ⟨⟨c2, f2, -⟩, v1, v2, v3⟩ := hh
  refine (lX9_275 t9 h6 hsl _ 0 0 s2 c2 rfl (by omega)).mono (fun R hR => ?_)
  obtain ⟨w1, w2⟩ := hR
  have r24 : ∀ i, rdA R o9 24 i = if i = 25 * sl + 0 then 1 else rdA σ o9 24 i := fun i => (w2 24 i (by omega)).trans (v2 i)
  have r26 : ∀ j i, 25 ≤ j ∧ j ≤ 26 → rdA R o9 j i = rdA σ o9 j i := fun j i hj => (w2 j i (by omega)).trans (v3 j i hj)
  have ne1 : (1 : Int32) ≠ 0 := by decide
  refine ⟨⟨fun r' hr' => ?_, fun r' hr' cc hcc => ?_, fun j hj w hw => ?_⟩, fun sl' hn => ?_⟩
  · rw [r24]; unfold fil
    by_cases e : r' = 0
    · rw [if_pos (by omega), if_pos (by omega)]
    · rw [if_neg (by omega), if_neg (by omega), if_neg (by omega)]; exact k.1 r' hr'
  · rw [r24, w1, v1]; unfold fil
    rw [if_neg (c := 1000 + (40 * r' + cc) = 100 + 0) (by omega)]
    by_cases e : r' = 0
    · subst e
      rw [if_pos (c := 25 * sl + 0 = 25 * sl + 0) rfl, if_neg ne1, if_pos (c := 1000 + 40 * 0 ≤ 1000 + (40 * 0 + cc) ∧ 1000 + (40 * 0 + cc) < 1000 + 40 * 0 + 40) (by omega)]
      unfold tsg
      have ec : 1000 + (40 * 0 + cc) - (1000 + 40 * 0) = cc := by omega
      rw [ec]
      by_cases d : cc < 8
      · rw [if_pos (c := cc < 8) d, if_pos (c := 1000 * sl + 0 ≤ 1000 * sl + (40 * 0 + cc) ∧ 1000 * sl + (40 * 0 + cc) < 1000 * sl + 8) (by omega)]
      · rw [if_neg (c := cc < 8) d, if_neg (c := 1000 * sl + 0 ≤ 1000 * sl + (40 * 0 + cc) ∧ 1000 * sl + (40 * 0 + cc) < 1000 * sl + 8) (by omega), if_pos (c := 1000 * sl + 40 * 0 + 8 ≤ 1000 * sl + (40 * 0 + cc) ∧ 1000 * sl + (40 * 0 + cc) < 1000 * sl + 40 * 0 + 8 + 32) (by omega), show 10 + (1000 * sl + (40 * 0 + cc) - (1000 * sl + 40 * 0 + 8)) = 10 + cc - 8 by omega]
        have k1 := k.1 0 (by omega)
        have k2 := k.2.1 0 (by omega) cc hcc
        rw [k1] at k2 ⊢
        by_cases z : u (100 + 0) = 0
        · rw [if_pos z, if_pos z]
        · rw [if_neg z] at k2
          rw [if_neg z, if_neg z, k2]
    · rw [if_neg (c := 25 * sl + r' = 25 * sl + 0) (by omega), if_neg (c := 1000 * sl + 0 ≤ 1000 * sl + (40 * r' + cc) ∧ 1000 * sl + (40 * r' + cc) < 1000 * sl + 8) (by omega), if_neg (c := 1000 * sl + 40 * 0 + 8 ≤ 1000 * sl + (40 * r' + cc) ∧ 1000 * sl + (40 * r' + cc) < 1000 * sl + 40 * 0 + 8 + 32) (by omega), if_neg (c := 1000 + 40 * 0 ≤ 1000 + (40 * r' + cc) ∧ 1000 + (40 * r' + cc) < 1000 + 40 * 0 + 40) (by omega)]
      exact k.2.1 r' hr' cc hcc
  · rw [r26 26 _ (by omega), r26 25 _ (by omega)]; unfold fil
    rw [if_neg (c := 200 + (3 * j + w) = 100 + 0) (by omega), if_neg (c := 1000 + 40 * 0 ≤ 200 + (3 * j + w) ∧ 200 + (3 * j + w) < 1000 + 40 * 0 + 40) (by omega)]
    exact k.2.2 j hj w hw
  · refine ⟨fun r' hr' => by rw [r24, if_neg (by omega)], fun j hj => ?_, fun k _ => r26 26 _ (by omega), fun k _ => r26 25 _ (by omega)⟩
    rw [w1, v1, if_neg (by omega), if_neg (by omega)]
theorem rX9_244 (c : sCI T σ) (t9 : T o9 = some 9) {x1 x2 x3 x4 x5 x6 y0 y1 y2 : Int32} {q sl : Nat} {t u : Nat → Int32} (eq : mm_R σ o9 20 = some q) (h6 : x6.toInt = sl) (hsl : sl < 20) (ht : ∀ j, rdA σ o9 11 j &&& 255 = t j) (k : ry o9 σ sl u) : pw (fX9_header_244 o9 x1 x2 x3 x4 x5 x6 y0 y1 y2 (some q) σ) (fun R => ry o9 R sl (fil t 10 8 0 (if x2 < 8 then u else er u)) ∧ ∀ sl', sl' ≠ sl → sag o9 σ R sl') := by
  unfold fX9_header_244
  obtain ⟨q', eq', tq⟩ := ci_ref c t9 20 (κ' := 70) rfl
  have : q' = q := Option.some.inj (eq'.symm.trans eq)
  subst this
  have c1 := ci_wI (j := y2.toNatClampNeg) (v := y1 + y0) c tq (kr_n rfl)
  have s1 : ∀ sl', sag o9 σ (mm_wI σ q' y2.toNatClampNeg (y1 + y0)) sl' := fun sl' => sag_of fun j i hj => by rw [q_w c t9 (k0 := 20) rfl eq (q_kr2 hj), if_neg (by omega)]
  have ht1 : ∀ j, rdA (mm_wI σ q' y2.toNatClampNeg (y1 + y0)) o9 11 j &&& 255 = t j := fun j => by rw [rdA_k c t9 (κ' := 61) rfl tq (by decide)]; exact ht j
  have k1 := k.sag (s1 sl)
  refine pw_onS rfl (pw_ar fun _ _ => pw_ib fun _ _ => pw_let (pw_ite (fun a => ?_) (fun a => pw_sh fun _ => ?_)))
  · rw [if_pos a]
    exact (rX9_259 c1 t9 h6 hsl ht1 k1).mono (fun R hR => ⟨hR.1, fun sl' hn => sag_t (s1 sl') (hR.2 sl' hn)⟩)
  · rw [if_neg a]
    refine pw_onP (fun y e => And.intro ((sX9_emptyRows (p2 := 1) c1 t9 ⟨by omega, by omega⟩ (by decide)).p y e) (lX9_emptyRows (fr := 1) c1 t9 h6 hsl rfl (by omega) y e)) fun s2 hh => ?_
    obtain ⟨⟨c2, f2, -⟩, ey⟩ := hh
    exact (rX9_259 c2 t9 h6 hsl (fun j => by rw [rdA_fr f2 c1 t9 (κ' := 61) rfl rfl rfl]; exact ht1 j) (ey.ers k1)).mono (fun R hR => ⟨hR.1, fun sl' hn => sag_t (s1 sl') (sag_t (ey.sag hn) (hR.2 sl' hn))⟩)
theorem rX9_206 (c : sCI T σ) (t9 : T o9 = some 9) {x1 x2 x3 x4 x5 x6 y0 y1 : Int32} {q sl : Nat} {t u : Nat → Int32} (eq : mm_R σ o9 20 = some q) (h6 : x6.toInt = sl) (hsl : sl < 20) (ht : ∀ j, rdA σ o9 11 j &&& 255 = t j) (k : ry o9 σ sl u) : pw (fX9_header_206 o9 x1 x2 x3 x4 x5 x6 y0 y1 (some q) σ) (fun R => ry o9 R sl (fil t 10 8 0 (if x2 < 8 then u else er u)) ∧ ∀ sl', sl' ≠ sl → sag o9 σ R sl') := by
  have K := fun a b d => rX9_244 (x1 := x1) (x2 := x2) (x3 := x3) (x4 := x4) (x5 := x5) (y0 := a) (y1 := b) (y2 := d) c t9 eq h6 hsl ht k
  unfold fX9_header_206 fX9_header_220 fX9_header_232
  refine pw_ite (fun _ => ?_) (fun _ => ?_) <;> refine pw_ite (fun _ => ?_) (fun _ => ?_) <;> refine pw_ite (fun _ => ?_) (fun _ => ?_) <;> exact K _ _ _
theorem q_fl_1 (v3 v5 v7 : Int32) : q_fl v3 v5 v7 &&& 1 = 0 ↔ v3 &&& 8 = 0 := by
  unfold q_fl
  by_cases a : v3 &&& 8 = 0 <;> by_cases b : v5 &&& 4 = 0 <;> by_cases d : v5 &&& 8 = 0 <;> by_cases e : v7 &&& 1 = 0 <;> simp only [a, b, d, e, if_true, if_false] <;> decide
theorem ry_bn {n : Nat} {g : Nat → Nat → Int32} {s : Nat → Nat} {m k sb : Int32} {n' : Nat} {g' : Nat → Nat → Int32} {s' : Nat → Nat} (hY : ∀ i, i < n → ry o9 σ (s i) (g i)) (bn : q_bn n g s m k sb n' g' s') (e1 : (∃ i, i < n ∧ q_nm g m k sb i) → ∀ j i, 23 ≤ j ∧ j ≤ 26 → rdA R o9 j i = rdA σ o9 j i) (e2 : (∀ i, i < n → ¬ q_nm g m k sb i) → q_ey o9 (s' (n' - 1)) 0 σ R) (hne : ∀ i, i + 1 < n' → s' i ≠ s' (n' - 1)) : ∀ i, i < n' → ry o9 R (s' i) (g' i) := by
  intro i hi
  rcases bn with ⟨j, hj, hnm, rfl, rfl, rfl⟩ | ⟨hnm, hn, rfl, rfl, p, rfl⟩ | ⟨hnm, hn, rfl, rfl, p, rfl⟩
  · have same := fun sl => sag_of (sl := sl) (e1 ⟨j, hj, hnm⟩)
    unfold q_app q_shf
    by_cases a : i = n' - 1
    · rw [if_pos a, if_pos a]; exact (hY j hj).sag (same _)
    · rw [if_neg a, if_neg a]
      by_cases b : i < j
      · rw [if_pos b, if_pos b]; exact (hY i hi).sag (same _)
      · rw [if_neg b, if_neg b]; exact (hY (i + 1) (by omega)).sag (same _)
  · have ey := e2 hnm
    rw [Nat.add_sub_cancel, q_appl] at ey
    by_cases a : i = n
    · subst a
      rw [q_appl, q_appl]; exact ey.new
    · have hn' := hne i (by omega)
      rw [Nat.add_sub_cancel, q_appl] at hn'
      have e : q_app s n p i = s i := if_neg a
      have e' : q_app g n (q_new m k sb) i = g i := if_neg a
      rw [e] at hn' ⊢
      rw [e']
      exact (hY i (by omega)).sag (ey.sag hn')
  · have ey := e2 hnm
    rw [show 20 - 1 = 19 from rfl, q_appl] at ey
    by_cases a : i = 19
    · subst a
      rw [q_appl, q_appl]; exact ey.new
    · have hn' := hne i (by omega)
      rw [show 20 - 1 = 19 from rfl, q_appl] at hn'
      have e : q_app (q_shf s 0) 19 p i = s (i + 1) := by unfold q_app q_shf; rw [if_neg a, if_neg (by omega)]
      have e' : q_app (q_shf g 0) 19 (q_new m k sb) i = g (i + 1) := by unfold q_app q_shf; rw [if_neg a, if_neg (by omega)]
      rw [e] at hn' ⊢
      rw [e']
      exact (hY (i + 1) (by omega)).sag (ey.sag hn')
end TZ
section TL
variable {T : Nat → Option Nat} {o9 : Nat}
def ryk (o9 : Nat) (k : Nat) (m : Int32) (v u : Nat → Int32) (σ0 σ : mm_M) (sl : Nat) : Prop := (∀ i, i < 6 → ∀ w, w < 3 → (if rdA σ o9 26 (6 * sl + i) = 0 then -1 else rdA σ o9 25 (18 * sl + (3 * i + w))) = (if i < k then lnk m v u (200 + (3 * i + w)) else u (200 + (3 * i + w)))) ∧ (∀ i, ¬ (6 * sl ≤ i ∧ i < 6 * sl + 6) → rdA σ o9 26 i = rdA σ0 o9 26 i) ∧ (∀ i, ¬ (18 * sl ≤ i ∧ i < 18 * sl + 18) → rdA σ o9 25 i = rdA σ0 o9 25 i) ∧ (∀ j i, 23 ≤ j ∧ j ≤ 24 → rdA σ o9 j i = rdA σ0 o9 j i)
theorem ryk_no {k : Nat} {m : Int32} {v u : Nat → Int32} {σ0 σ : mm_M} {sl : Nat} (h : ryk o9 k m v u σ0 σ sl) (hk : k < 6) (hn : ∃ j, j < 6 ∧ v (3 + 6 * k + j) = -1) : ryk o9 (k + 1) m v u σ0 σ sl := by
  refine ⟨fun i hi w hw => ?_, h.2⟩
  rw [h.1 i hi w hw]
  by_cases e : i = k
  · subst e
    rw [if_neg (by omega), if_pos (by omega), lnk_no hk hn (by omega)]
  · by_cases d : i < k
    · rw [if_pos d, if_pos (by omega)]
    · rw [if_neg d, if_neg (by omega)]
theorem rX9_links_set {m x2 x3 : Int32} {sl k : Nat} {v u : Nat → Int32} {σ0 σ : mm_M} {K : mm_M → Option mm_M} {Qp : mm_M → Prop} (c : sCI T σ) (t9 : T o9 = some 9) (hm : 1 ≤ m.toInt ∧ m.toInt ≤ 8) (h2 : x2.toInt = sl) (hsl : sl < 20) (h3 : x3.toInt = k) (hk : k < 6) (hv : ∀ j, vl (rdA σ o9 11 j) = v j) (hw : ∀ j, j < 6 → v (3 + 6 * k + j) ≠ -1) (h : ryk o9 k m v u σ0 σ sl) (hK : ∀ s, sCI T s → (∀ j, rdA s o9 11 j = rdA σ o9 11 j) → ryk o9 (k + 1) m v u σ0 s sl → pw (K s) Qp) :
    pw (mm_sh σ o9 (.inl 9) (mm_on (fX9_value o9 ((3 + (6 * x3)) + 3) σ) fun q8 => mm_sh q8.2 o9 (.inl 9) (mm_on (fX9_value o9 ((3 + (6 * x3)) + 5) q8.2) fun q10 => mm_sh q10.2 o9 (.inl 9) (mm_on (mm_R q10.2 o9 26) fun q12 => mm_ar q10.2 q12 1 fun n13 => mm_ib ((6 * x2) + x3) n13 (mm_let (mm_wI q10.2 q12 (((6 * x2) + x3).toNatClampNeg) (vp_nar .boolean 1)) fun s15 => mm_on (mm_R s15 o9 25) fun q16 => mm_ar s15 q16 0 fun n17 => mm_ib (3 * ((6 * x2) + x3)) n17 (mm_let (mm_wI s15 q16 ((3 * ((6 * x2) + x3)).toNatClampNeg) (fX9_mag ((m - m / 8 * 8) ^^^ ((q8.1 / 8) + (2 * (q10.1 / 4)))))) fun s19 => mm_on (fX9_value o9 ((3 + (6 * x3)) + 1) s19) fun q20 => mm_sh q20.2 o9 (.inl 9) (mm_on (fX9_value o9 (3 + (6 * x3)) q20.2) fun q22 => mm_on (mm_R s19 o9 25) fun q23 => mm_ar q22.2 q23 0 fun n24 => mm_ib ((3 * ((6 * x2) + x3)) + 1) n24 (mm_let (mm_wI q22.2 q23 (((3 * ((6 * x2) + x3)) + 1).toNatClampNeg) ((16 * q20.1) + q22.1)) fun s26 => mm_sh s26 o9 (.inl 9) (mm_on (fX9_value o9 ((3 + (6 * x3)) + 2) s26) fun q28 => mm_sh q28.2 o9 (.inl 9) (mm_on (fX9_value o9 ((3 + (6 * x3)) + 4) q28.2) fun q30 => mm_on (mm_R s26 o9 25) fun q31 => mm_ar q30.2 q31 0 fun n32 => mm_ib ((3 * ((6 * x2) + x3)) + 2) n32 (mm_let (mm_wI q30.2 q31 (((3 * ((6 * x2) + x3)) + 2).toNatClampNeg) (fX9_subcodeOf q28.1 q8.1 q30.1 q10.1)) fun s34 => K s34))))))))))) Qp := by
  obtain ⟨q26, e26, t26⟩ := ci_ref c t9 26 (κ' := 76) rfl
  obtain ⟨q25, e25, t25⟩ := ci_ref c t9 25 (κ' := 75) rfl
  have ib : (3 + 6 * x3).toInt = 3 + 6 * k := (zi_3k h3 hk).2.2.2
  have ix : ∀ (z : Int32) (j : Nat), z.toInt = j → j < 6 → (3 + 6 * x3 + z).toNatClampNeg = 3 + 6 * k + j := fun z j hz hj => by rw [zi_clamp, zi_add, ib, hz, zi_bm (by omega) (by omega)]; omega
  have i0 : (3 + 6 * x3).toNatClampNeg = 3 + 6 * k := by rw [zi_clamp, ib]; omega
  have hf : ∀ j, j < 6 → ∃ kk : Fin 16, v (3 + 6 * k + j) = Int32.ofNat kk.val := fun j hj => by
    rw [← hv]; exact (vl_rg _).resolve_left (fun e => hw j hj (by rw [← hv]; exact e))
  have al := zi_ab (a := 6) (n := 6) rfl h2 h3 (by omega) hsl (by omega)
  have e3 : (3 : Int32).toInt = 3 := rfl
  have l0 : (3 * (6 * x2 + x3)).toInt = 18 * sl + 3 * k := by rw [zi_mul, al.1, e3, zi_bm (by omega) (by omega)]; omega
  have l0' : (3 * (6 * x2 + x3)).toNatClampNeg = 18 * sl + (3 * k + 0) := by rw [zi_clamp, l0]; omega
  have l1 : (3 * (6 * x2 + x3) + 1).toNatClampNeg = 18 * sl + (3 * k + 1) := by rw [zi_clamp, zi_add, l0, show (1 : Int32).toInt = 1 from rfl, zi_bm (by omega) (by omega)]; omega
  have l2 : (3 * (6 * x2 + x3) + 2).toNatClampNeg = 18 * sl + (3 * k + 2) := by rw [zi_clamp, zi_add, l0, show (2 : Int32).toInt = 2 from rfl, zi_bm (by omega) (by omega)]; omega
  refine pw_sh fun _ => pw_onP pX9_value fun q8 e8 => ?_
  obtain ⟨d3, s8⟩ := q8
  have : s8 = σ := congrArg Prod.snd e8
  subst this
  have hd3 : d3 = v (3 + 6 * k + 3) := (congrArg Prod.fst e8).trans (by rw [ix 3 3 rfl (by omega)]; exact hv _)
  clear e8
  refine pw_sh fun _ => pw_onP pX9_value fun q10 e10 => ?_
  obtain ⟨d5, s10⟩ := q10
  have : s10 = s8 := congrArg Prod.snd e10
  subst this
  have hd5 : d5 = v (3 + 6 * k + 5) := (congrArg Prod.fst e10).trans (by rw [ix 5 5 rfl (by omega)]; exact hv _)
  clear e10
  dsimp only
  rw [m_lk hm (by rw [hd3]; exact hf 3 (by omega)) (by rw [hd5]; exact hf 5 (by omega))]
  refine pw_sh fun _ => pw_onS e26 (pw_ar fun _ _ => pw_ib fun _ _ => pw_let (pw_onS e25 (pw_ar fun _ _ => pw_ib fun _ _ => pw_let ?_)))
  rw [al.2, zo_nar1, l0']
  generalize hA : fX8_magazineOf (m ^^^ (d3 / 8 + 2 * (d5 / 4))) = A
  have c1 := ci_wI (j := 6 * sl + k) (v := 1) c t26 (kr_n rfl)
  have c2 := ci_wI (j := 18 * sl + (3 * k + 0)) (v := A) c1 t25 (kr_n rfl)
  have b2 : ∀ j i, kref 9 j = some (50 + j) → rdA (mm_wI (mm_wI s10 q26 (6 * sl + k) 1) q25 (18 * sl + (3 * k + 0)) A) o9 j i = if j = 25 ∧ i = 18 * sl + (3 * k + 0) then A else if j = 26 ∧ i = 6 * sl + k then 1 else rdA s10 o9 j i := fun j i hj => by rw [q_w c1 t9 (k0 := 25) rfl e25 hj, q_w c t9 (k0 := 26) rfl e26 hj]
  have e25' : mm_R (mm_wI (mm_wI s10 q26 (6 * sl + k) 1) q25 (18 * sl + (3 * k + 0)) A) o9 25 = some q25 := e25
  generalize mm_wI (mm_wI s10 q26 (6 * sl + k) 1) q25 (18 * sl + (3 * k + 0)) A = s19 at c2 b2 e25' ⊢
  have t19 : ∀ j, rdA s19 o9 11 j = rdA s10 o9 11 j := fun j => by rw [b2 11 j rfl, if_neg (by omega), if_neg (by omega)]
  refine pw_onP pX9_value fun q20 e20 => ?_
  obtain ⟨d1, s20⟩ := q20
  have : s20 = s19 := congrArg Prod.snd e20
  subst this
  have hd1 : d1 = v (3 + 6 * k + 1) := (congrArg Prod.fst e20).trans (by rw [ix 1 1 rfl (by omega), t19]; exact hv _)
  clear e20
  refine pw_sh fun _ => pw_onP pX9_value fun q22 e22 => ?_
  obtain ⟨d0, s22⟩ := q22
  have : s22 = s20 := congrArg Prod.snd e22
  subst this
  have hd0 : d0 = v (3 + 6 * k) := (congrArg Prod.fst e22).trans (by rw [i0, t19]; exact hv _)
  clear e22
  dsimp only
  refine pw_onS e25' (pw_ar fun _ _ => pw_ib fun _ _ => pw_let (pw_sh fun _ => ?_))
  rw [l1]
  generalize hB : 16 * d1 + d0 = B
  have c3 := ci_wI (j := 18 * sl + (3 * k + 1)) (v := B) c2 t25 (kr_n rfl)
  have b3 : ∀ j i, kref 9 j = some (50 + j) → rdA (mm_wI s22 q25 (18 * sl + (3 * k + 1)) B) o9 j i = if j = 25 ∧ i = 18 * sl + (3 * k + 1) then B else if j = 25 ∧ i = 18 * sl + (3 * k + 0) then A else if j = 26 ∧ i = 6 * sl + k then 1 else rdA s10 o9 j i := fun j i hj => by rw [q_w c2 t9 (k0 := 25) rfl e25' hj, b2 j i hj]
  have e25'' : mm_R (mm_wI s22 q25 (18 * sl + (3 * k + 1)) B) o9 25 = some q25 := e25'
  generalize mm_wI s22 q25 (18 * sl + (3 * k + 1)) B = s26 at c3 b3 e25'' ⊢
  have t26' : ∀ j, rdA s26 o9 11 j = rdA s10 o9 11 j := fun j => by rw [b3 11 j rfl, if_neg (by omega), if_neg (by omega), if_neg (by omega)]
  refine pw_onP pX9_value fun q28 e28 => ?_
  obtain ⟨d2, s28⟩ := q28
  have : s28 = s26 := congrArg Prod.snd e28
  subst this
  have hd2 : d2 = v (3 + 6 * k + 2) := (congrArg Prod.fst e28).trans (by rw [ix 2 2 rfl (by omega), t26']; exact hv _)
  clear e28
  refine pw_sh fun _ => pw_onP pX9_value fun q30 e30 => ?_
  obtain ⟨d4, s30⟩ := q30
  have : s30 = s28 := congrArg Prod.snd e30
  subst this
  have hd4 : d4 = v (3 + 6 * k + 4) := (congrArg Prod.fst e30).trans (by rw [ix 4 4 rfl (by omega), t26']; exact hv _)
  clear e30
  dsimp only
  rw [v_sub (by rw [hd3]; exact hf 3 (by omega)) (by rw [hd5]; exact hf 5 (by omega))]
  refine pw_onS e25'' (pw_ar fun _ _ => pw_ib fun _ _ => pw_let ?_)
  rw [l2]
  generalize hD : fX8_subcodeOf d2 d3 d4 d5 = D
  have c4 := ci_wI (j := 18 * sl + (3 * k + 2)) (v := D) c3 t25 (kr_n rfl)
  have b4 : ∀ j i, kref 9 j = some (50 + j) → rdA (mm_wI s30 q25 (18 * sl + (3 * k + 2)) D) o9 j i = if j = 25 ∧ i = 18 * sl + (3 * k + 2) then D else if j = 25 ∧ i = 18 * sl + (3 * k + 1) then B else if j = 25 ∧ i = 18 * sl + (3 * k + 0) then A else if j = 26 ∧ i = 6 * sl + k then 1 else rdA s10 o9 j i := fun j i hj => by rw [q_w c3 t9 (k0 := 25) rfl e25'' hj, b3 j i hj]
  generalize mm_wI s30 q25 (18 * sl + (3 * k + 2)) D = s34 at c4 b4 ⊢
  obtain ⟨y0, y1, y2⟩ := lnk_yes (m := m) (v := v) (u := u) hk hw
  have ne1 : (1 : Int32) ≠ 0 := by decide
  have v26 : ∀ i, rdA s34 o9 26 i = if i = 6 * sl + k then 1 else rdA s10 o9 26 i := fun i => by
    rw [b4 26 i rfl, if_neg (fun h => absurd h.1 (by decide)), if_neg (fun h => absurd h.1 (by decide)), if_neg (fun h => absurd h.1 (by decide))]
    by_cases e : i = 6 * sl + k
    · rw [if_pos ⟨rfl, e⟩, if_pos e]
    · rw [if_neg (fun h => e h.2), if_neg e]
  have v25 : ∀ i, rdA s34 o9 25 i = if i = 18 * sl + (3 * k + 2) then D else if i = 18 * sl + (3 * k + 1) then B else if i = 18 * sl + (3 * k + 0) then A else rdA s10 o9 25 i := fun i => by
    rw [b4 25 i rfl]
    by_cases e2 : i = 18 * sl + (3 * k + 2)
    · rw [if_pos ⟨rfl, e2⟩, if_pos e2]
    rw [if_neg (fun h => e2 h.2), if_neg e2]
    by_cases e1 : i = 18 * sl + (3 * k + 1)
    · rw [if_pos ⟨rfl, e1⟩, if_pos e1]
    rw [if_neg (fun h => e1 h.2), if_neg e1]
    by_cases e0 : i = 18 * sl + (3 * k + 0)
    · rw [if_pos ⟨rfl, e0⟩, if_pos e0]
    rw [if_neg (fun h => e0 h.2), if_neg e0, if_neg (fun h => absurd h.1 (by decide))]
  refine hK s34 c4 (fun j => by rw [b4 11 j rfl, if_neg (fun h => absurd h.1 (by decide)), if_neg (fun h => absurd h.1 (by decide)), if_neg (fun h => absurd h.1 (by decide)), if_neg (fun h => absurd h.1 (by decide))]) ⟨fun i hi w hw' => ?_, fun i hi => ?_, fun i hi => ?_, fun j i hj => ?_⟩
  · by_cases e : i = k
    · subst e
      rw [v26, if_pos (c := 6 * sl + i = 6 * sl + i) rfl, if_neg ne1, if_pos (c := i < i + 1) (by omega), v25]
      have hw3 : w = 0 ∨ w = 1 ∨ w = 2 := by omega
      rcases hw3 with rfl | rfl | rfl
      · rw [if_neg (by omega), if_neg (by omega), if_pos rfl, ← hA, hd3, hd5]; exact y0.symm
      · rw [if_neg (by omega), if_pos rfl, ← hB, hd1, hd0]; exact y1.symm
      · rw [if_pos rfl, ← hD, hd2, hd3, hd4, hd5]; exact y2.symm
    · have o := h.1 i hi w hw'
      rw [v26, v25, if_neg (c := 6 * sl + i = 6 * sl + k) (by omega), if_neg (c := 18 * sl + (3 * i + w) = 18 * sl + (3 * k + 2)) (by omega), if_neg (c := 18 * sl + (3 * i + w) = 18 * sl + (3 * k + 1)) (by omega), if_neg (c := 18 * sl + (3 * i + w) = 18 * sl + (3 * k + 0)) (by omega), o]
      by_cases d : i < k
      · rw [if_pos d, if_pos (by omega)]
      · rw [if_neg d, if_neg (by omega)]
  · rw [v26, if_neg (by omega)]; exact h.2.1 i hi
  · rw [v25, if_neg (by omega), if_neg (by omega), if_neg (by omega)]; exact h.2.2.1 i hi
  · rw [b4 j i (q_kr2 (by omega)), if_neg (by omega), if_neg (by omega), if_neg (by omega), if_neg (by omega)]; exact h.2.2.2 j i hj
end TL
