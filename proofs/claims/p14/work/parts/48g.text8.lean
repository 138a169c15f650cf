/-! Rows and links of pages (p13, p14): frames by address, and what the class's small methods write -/
def oa (L : List Nat) (σ R : mm_M) : Prop := (∀ a, a ∉ L → ∀ j, mm_I R a j = mm_I σ a j) ∧ (∀ a j, mm_R R a j = mm_R σ a j) ∧ ∀ a, R.2.1 a = σ.2.1 a
section OA
variable {L L' : List Nat} {σ s t : mm_M}
theorem oa_r : oa L σ σ := ⟨fun _ _ _ => rfl, fun _ _ => rfl, fun _ => rfl⟩
theorem oa_t (h : oa L σ s) (k : oa L s t) : oa L σ t := ⟨fun a ha j => (k.1 a ha j).trans (h.1 a ha j), fun a j => (k.2.1 a j).trans (h.2.1 a j), fun a => (k.2.2 a).trans (h.2.2 a)⟩
theorem oa_w {a k : Nat} {v : Int32} (h : a ∈ L) : oa L σ (mm_wI σ a k v) := ⟨fun b hb j => mm_up2_ne (fun e : b = a => hb (by rw [e]; exact h)) j, fun _ _ => rfl, fun _ => rfl⟩
theorem oa_m (h : oa L σ s) (k : ∀ a, a ∈ L → a ∈ L') : oa L' σ s := ⟨fun a ha j => h.1 a (fun hl => ha (k a hl)) j, h.2.1, h.2.2⟩
end OA
section TX8
variable {σ : mm_M} {p x A B Lk : Nat}
theorem lX3_eraseLinks_2 : ∀ (u : Nat) (y : Int32) (k : Nat) (σ : mm_M), mm_R σ p 1 = some Lk → σ.2.1 Lk = some (.inr (0, 18)) → y.toInt = k → k ≤ 18 → (∀ j, j < k → mm_I σ Lk j = -1) → pw (fX3_eraseLinks_2 u p y σ) (fun R => oa [Lk] σ R ∧ ∀ j, j < 18 → mm_I R Lk j = -1) := by
  intro u
  induction u with
  | zero => intros; exact pw_none
  | succ u ih =>
    intro y k σ e hs hy hk hv
    unfold fX3_eraseLinks_2
    have ey := zi_p1 (x := y) (by omega)
    have ecl : y.toNatClampNeg = k := by rw [zi_clamp]; omega
    refine pw_sh fun _ => pw_onS e (pw_ar fun n3 h3 => ?_)
    have : n3 = 18 := by rw [hs] at h3; have := Option.some.inj h3; cases this; rfl
    subst this
    have e18 : (Int32.ofNat 18).toInt = 18 := rfl
    refine pw_ite (fun a => pw_some ⟨oa_r, fun j hj => hv j ?_⟩) (fun a => pw_onS e (pw_ar fun _ _ => pw_ib fun _ _ => pw_let ?_))
    · rw [zi_le] at a; omega
    · rw [zi_le] at a
      rw [ecl]
      have w : oa [Lk] σ (mm_wI σ Lk k (-1)) := oa_w (by simp)
      refine (ih (y + 1) (k + 1) (mm_wI σ Lk k (-1)) e hs (by omega) (by omega) (fun j hj => ?_)).mono (fun R hR => ⟨oa_t w hR.1, hR.2⟩)
      by_cases ej : j = k
      · subst ej; exact mm_up2_self
      · exact (mm_up2_nk _ ej).trans (hv j (by omega))
theorem lX3_eraseLinks (e : mm_R σ p 1 = some Lk) (hs : σ.2.1 Lk = some (.inr (0, 18))) : pw (fX3_eraseLinks p σ) (fun R => oa [Lk] σ R ∧ ∀ j, j < 18 → mm_I R Lk j = -1) :=
  lX3_eraseLinks_2 _ 0 0 σ e hs rfl (by omega) (fun j hj => absurd hj (Nat.not_lt_zero _))
theorem zi_40 {y z : Int32} {r c : Nat} (hy : y.toInt = r) (hr : r < 25) (hz : z.toInt = c) (hc : c < 40) : (y * 40 + z).toInt = 40 * r + c := by
  have e1 : (y * 40).toInt = r * 40 := by rw [zi_mul, hy, show (40 : Int32).toInt = 40 from rfl, zi_bm (by omega) (by omega)]
  rw [zi_add, e1, hz, zi_bm (by omega) (by omega)]; omega
theorem lX4_setSigns_3 {y cn sg : Int32} {r n : Nat} (hr : y.toInt = r) (hr5 : r < 25) (hn : cn.toInt = n) (hn40 : n ≤ 40) : ∀ (u : Nat) (z : Int32) (k : Nat) (σ : mm_M), mm_R σ x 0 = some A → z.toInt = k → k ≤ n → pw (fX4_setSigns_3 u x y cn sg z σ) (fun R => oa [A] σ R ∧ ∀ j, mm_I R A j = if 40 * r + k ≤ j ∧ j < 40 * r + n then sg else mm_I σ A j) := by
  intro u
  induction u with
  | zero => intros; exact pw_none
  | succ u ih =>
    intro z k σ e hz hk
    unfold fX4_setSigns_3
    have ez := zi_p1 (x := z) (by omega)
    refine pw_ite (fun a => pw_some ⟨oa_r, fun j => ?_⟩) (fun a => pw_ite (fun b => ?_) (fun b => pw_sh fun _ => pw_onS e (pw_ar fun _ _ => pw_ib fun _ _ => pw_let ?_)))
    · rw [zi_le] at a
      rw [if_neg (by omega)]
    · exfalso
      rw [zi_le] at a b
      simp only [Int32.reduceToInt] at b
      omega
    · rw [zi_le] at a
      have ei : (y * 40 + z).toNatClampNeg = 40 * r + k := by rw [zi_clamp, zi_40 hr hr5 hz (by omega)]; omega
      rw [ei]
      have w : oa [A] σ (mm_wI σ A (40 * r + k) sg) := oa_w (by simp)
      refine (ih (z + 1) (k + 1) (mm_wI σ A (40 * r + k) sg) e (by omega) (by omega)).mono (fun R hR => ⟨oa_t w hR.1, fun j => ?_⟩)
      rw [hR.2 j]
      by_cases ej : j = 40 * r + k
      · subst ej
        rw [if_neg (by omega), if_pos (by omega)]; exact mm_up2_self
      · by_cases c : 40 * r + (k + 1) ≤ j ∧ j < 40 * r + n
        · rw [if_pos c, if_pos (by omega)]
        · rw [if_neg c, if_neg (by omega)]; exact mm_up2_nk _ ej
theorem lX4_setSigns {y cn sg : Int32} {r n : Nat} (e : mm_R σ x 0 = some A) (hr : y.toInt = r) (hr5 : r < 25) (hn : cn.toInt = n) (hn40 : n ≤ 40) : pw (fX4_setSigns x y cn sg σ) (fun R => oa [A] σ R ∧ ∀ j, mm_I R A j = if 40 * r ≤ j ∧ j < 40 * r + n then sg else mm_I σ A j) :=
  lX4_setSigns_3 hr hr5 hn hn40 _ 0 0 σ e rfl (Nat.zero_le _)
/-- an empty row's signs are 0 -/
def tx0 (σ : mm_M) (A B : Nat) : Prop := ∀ r, r < 25 → mm_I σ B r = 0 → ∀ c, c < 40 → mm_I σ A (40 * r + c) = 0
theorem lX4_eraseRows_6 (hAB : A ≠ B) {x1 : Int32} {fr : Nat} : ∀ (u : Nat) (y : Int32) (k : Nat) (σ : mm_M), mm_R σ x 0 = some A → mm_R σ x 1 = some B → y.toInt = k → fr ≤ k → k ≤ 25 → tx0 σ A B → pw (fX4_eraseRows_6 u x x1 y σ) (fun R => oa [A, B] σ R ∧ (∀ r, r < 25 → mm_I R B r = if k ≤ r then 0 else mm_I σ B r) ∧ (∀ j, j < 1000 → mm_I R A j = if 40 * k ≤ j then 0 else mm_I σ A j)) := by
  intro u
  induction u with
  | zero => intros; exact pw_none
  | succ u ih =>
    intro y k σ e0 e1 hy hf hk h0
    unfold fX4_eraseRows_6
    have ey := zi_p1 (x := y) (by omega)
    have ecl : y.toNatClampNeg = k := by rw [zi_clamp]; omega
    refine pw_ite (fun a => pw_some ⟨oa_r, fun r hr => ?_, fun j hj => ?_⟩) (fun a => pw_sh fun _ => pw_onS e1 (pw_ar fun _ _ => pw_ib fun _ _ => ?_))
    · rw [zi_le] at a; simp only [Int32.reduceToInt] at a; rw [if_neg (by omega)]
    · rw [zi_le] at a; simp only [Int32.reduceToInt] at a; rw [if_neg (by omega)]
    rw [zi_le] at a
    simp only [Int32.reduceToInt] at a
    rw [ecl]
    refine pw_ite (fun b => ?_) (fun b => ?_)
    · refine (ih (y + 1) (k + 1) σ e0 e1 (by omega) (by omega) (by omega) h0).mono (fun R hR => ⟨hR.1, fun r hr => ?_, fun j hj => ?_⟩)
      · rw [hR.2.1 r hr]
        by_cases c : r = k
        · subst c; rw [if_neg (by omega), if_pos (by omega)]; exact b
        · by_cases d : k + 1 ≤ r
          · rw [if_pos d, if_pos (by omega)]
          · rw [if_neg d, if_neg (by omega)]
      · rw [hR.2.2 j hj]
        by_cases d : 40 * (k + 1) ≤ j
        · rw [if_pos d, if_pos (by omega)]
        · by_cases c : 40 * k ≤ j
          · rw [if_neg d, if_pos c]
            have := h0 k (by omega) b (j - 40 * k) (by omega)
            rw [show 40 * k + (j - 40 * k) = j by omega] at this
            exact this
          · rw [if_neg d, if_neg c]
    · refine pw_onP (lX4_setSigns (r := k) (n := 40) e0 hy (by omega) rfl (by omega)) fun s2 ⟨o2, v2⟩ => pw_sh fun _ => ?_
      have e0' : mm_R s2 x 0 = some A := (o2.2.1 x 0).trans e0
      have e1' : mm_R s2 x 1 = some B := (o2.2.1 x 1).trans e1
      have hB2 : ∀ j, mm_I s2 B j = mm_I σ B j := fun j => o2.1 B (by simp; exact fun e => hAB e.symm) j
      refine pw_onS e1' (pw_ar fun _ _ => pw_ib fun _ _ => pw_let ?_)
      rw [zo_nar0]
      have w : oa [A, B] σ (mm_wI s2 B k 0) := oa_t (oa_m o2 (by simp)) (oa_w (by simp))
      have iB : ∀ r, mm_I (mm_wI s2 B k 0) B r = if r = k then 0 else mm_I σ B r := fun r => by
        by_cases c : r = k
        · subst c; rw [if_pos rfl]; exact mm_up2_self
        · rw [if_neg c]; exact (mm_up2_nk _ c).trans (hB2 r)
      have iA : ∀ j, mm_I (mm_wI s2 B k 0) A j = if 40 * k ≤ j ∧ j < 40 * k + 40 then 0 else mm_I σ A j := fun j => (mm_up2_ne hAB j).trans (v2 j)
      refine (ih (y + 1) (k + 1) (mm_wI s2 B k 0) e0' e1' (by omega) (by omega) (by omega) (fun r hr hb c hc => ?_)).mono (fun R hR => ⟨oa_t w hR.1, fun r hr => ?_, fun j hj => ?_⟩)
      · rw [iA]
        rw [iB] at hb
        by_cases d : r = k
        · subst d; rw [if_pos (by omega)]
        · rw [if_neg d] at hb
          rw [if_neg (by omega)]; exact h0 r hr hb c hc
      · rw [hR.2.1 r hr, iB]
        by_cases c : r = k
        · subst c; rw [if_neg (by omega), if_pos rfl, if_pos (by omega)]
        · rw [if_neg c]
          by_cases d : k + 1 ≤ r
          · rw [if_pos d, if_pos (by omega)]
          · rw [if_neg d, if_neg (by omega)]
      · rw [hR.2.2 j hj, iA]
        by_cases d : 40 * (k + 1) ≤ j
        · rw [if_pos d, if_pos (by omega)]
        · rw [if_neg d]
          by_cases c : 40 * k ≤ j
          · rw [if_pos (by omega), if_pos c]
          · rw [if_neg (by omega), if_neg c]
theorem lX4_eraseRows (hAB : A ≠ B) {y : Int32} {k : Nat} (e0 : mm_R σ x 0 = some A) (e1 : mm_R σ x 1 = some B) (hy : y.toInt = k) (hk : k ≤ 25) (h0 : tx0 σ A B) : pw (fX4_eraseRows x y σ) (fun R => oa [A, B] σ R ∧ (∀ r, r < 25 → mm_I R B r = if k ≤ r then 0 else mm_I σ B r) ∧ (∀ j, j < 1000 → mm_I R A j = if 40 * k ≤ j then 0 else mm_I σ A j)) := by
  unfold fX4_eraseRows
  rw [if_neg (by rw [zi_lt, show (0 : Int32).toInt = 0 from rfl]; omega)]
  exact lX4_eraseRows_6 hAB (fr := k) _ y k σ e0 e1 hy (Nat.le_refl _) hk h0
/-- the sign that comes to column c of a row: t the bytes, d what stands there else -/
def tsg (t : Nat → Int32) (fr sp c : Nat) (d : Int32) : Int32 := if c < sp then 32 else if fX8_isRight (t (fr + c - sp)) = 0 then d else t (fr + c - sp) &&& 127
theorem lX4_fill_46 {ta : Nat} {t : Nat → Int32} {y sp fr : Int32} {r s f : Nat} (hta : ta ≠ A) (hr : y.toInt = r) (hr5 : r < 25) (hs : sp.toInt = s) (hs8 : s ≤ 8) (hf : fr.toInt = f) (hf10 : f + 40 - s ≤ 60) (hfs : f ≤ 20) : ∀ (u : Nat) (z : Int32) (k : Nat) (σ : mm_M), mm_R σ x 0 = some A → σ.2.1 ta = some (.inr (0, 60)) → (∀ j, mm_I σ ta j = t j) → z.toInt = k → s ≤ k → k ≤ 40 → pw (fX4_fill_46 u x y sp ta fr z σ) (fun R => oa [A] σ R ∧ ∀ j, mm_I R A j = if 40 * r + k ≤ j ∧ j < 40 * r + 40 then tsg t f s (j - 40 * r) (mm_I σ A j) else mm_I σ A j) := by
  intro u
  induction u with
  | zero => intros; exact pw_none
  | succ u ih =>
    intro z k σ e hsh ht hz hk hk40
    unfold fX4_fill_46
    have ez := zi_p1 (x := z) (by omega)
    refine pw_ite (fun a => pw_some ⟨oa_r, fun j => ?_⟩) (fun a => pw_ar fun n15 h15 => ?_)
    · rw [zi_le] at a; simp only [Int32.reduceToInt] at a; rw [if_neg (by omega)]
    rw [zi_le] at a
    simp only [Int32.reduceToInt] at a
    have : n15 = 60 := by rw [hsh] at h15; have := Option.some.inj h15; cases this; rfl
    subst this
    have ei : (fr + z - sp).toInt = f + k - s := by
      have e1 : (fr + z).toInt = f + k := by rw [zi_add, hf, hz, zi_bm (by omega) (by omega)]
      rw [zi_sub, e1, hs, zi_bm (by omega) (by omega)]
    have ecl : (fr + z - sp).toNatClampNeg = f + k - s := by rw [zi_clamp, ei]; omega
    have ho : fX8_isOutside (fr + z - sp) (Int32.ofNat 60) = 0 := by rw [zp.1, ei, show (Int32.ofNat 60).toInt = 60 from rfl]; omega
    rw [if_pos ho, ecl, ht]
    have skip : ∀ (σ' : mm_M), oa [A] σ σ' → (∀ j, mm_I σ' A j = if j = 40 * r + k then tsg t f s k (mm_I σ A j) else mm_I σ A j) → pw (fX4_fill_46 u x y sp ta fr (z + 1) σ') (fun R => oa [A] σ R ∧ ∀ j, mm_I R A j = if 40 * r + k ≤ j ∧ j < 40 * r + 40 then tsg t f s (j - 40 * r) (mm_I σ A j) else mm_I σ A j) := by
      intro σ' w hv
      refine (ih (z + 1) (k + 1) σ' ((w.2.1 x 0).trans e) ((w.2.2 ta).trans hsh) (fun j => (w.1 ta (by simp; exact hta) j).trans (ht j)) (by omega) (by omega) (by omega)).mono (fun R hR => ⟨oa_t w hR.1, fun j => ?_⟩)
      rw [hR.2 j, hv j]
      by_cases ej : j = 40 * r + k
      · rw [if_neg (by omega), if_pos ej, if_pos (by omega)]
        congr 1; omega
      · rw [if_neg ej]
        by_cases c : 40 * r + (k + 1) ≤ j ∧ j < 40 * r + 40
        · rw [if_pos c, if_pos (by omega)]
        · rw [if_neg c, if_neg (by omega)]
    refine pw_ib fun _ _ => pw_ite (fun b => ?_) (fun b => pw_sh fun _ => pw_ib fun _ _ => pw_onS e (pw_ar fun _ _ => pw_ib fun _ _ => pw_let ?_))
    · refine skip σ oa_r (fun j => ?_)
      by_cases ej : j = 40 * r + k
      · rw [if_pos ej]
        unfold tsg
        rw [if_neg (by omega), if_pos b]
      · rw [if_neg ej]
    · have eI : (y * 40 + z).toNatClampNeg = 40 * r + k := by rw [zi_clamp, zi_40 hr hr5 hz (by omega)]; omega
      rw [eI]
      refine skip _ (oa_w (by simp)) (fun j => ?_)
      by_cases ej : j = 40 * r + k
      · subst ej
        rw [if_pos rfl]
        unfold tsg
        rw [if_neg (by omega), if_neg b]; exact mm_up2_self
      · rw [if_neg ej]; exact mm_up2_nk _ ej
theorem lX4_fill {ta : Nat} {t : Nat → Int32} {y sp fr : Int32} {r s f : Nat} (hAB : A ≠ B) (hta : ta ≠ A) (htb : ta ≠ B) (hr : y.toInt = r) (hr5 : r < 25) (hs : sp.toInt = s) (hs8 : s ≤ 8) (hf : fr.toInt = f) (hf10 : f + 40 - s ≤ 60) (hfs : f ≤ 20) (e0 : mm_R σ x 0 = some A) (e1 : mm_R σ x 1 = some B) (hsh : σ.2.1 ta = some (.inr (0, 60))) (ht : ∀ j, mm_I σ ta j = t j) : pw (fX4_fill x y sp ta fr σ) (fun R => oa [A, B] σ R ∧ (∀ k, mm_I R B k = if k = r then 1 else mm_I σ B k) ∧ ∀ j, mm_I R A j = if 40 * r ≤ j ∧ j < 40 * r + 40 then tsg t f s (j - 40 * r) (if mm_I σ B r = 0 then 32 else mm_I σ A j) else mm_I σ A j) := by
  unfold fX4_fill
  have ho : fX8_isOutside y 25 = 0 := by rw [zp.1, hr, show (25 : Int32).toInt = 25 from rfl]; omega
  have ecl : y.toNatClampNeg = r := by rw [zi_clamp]; omega
  rw [if_pos ho]
  have k27 : ∀ (cn : Int32) (n : Nat), cn.toInt = n → n ≤ 40 → s ≤ n → (mm_I σ B r = 0 → n = 40) → (mm_I σ B r ≠ 0 → n = s) → pw (fX4_fill_27 x y sp ta fr cn y x σ) (fun R => oa [A, B] σ R ∧ (∀ k, mm_I R B k = if k = r then 1 else mm_I σ B k) ∧ ∀ j, mm_I R A j = if 40 * r ≤ j ∧ j < 40 * r + 40 then tsg t f s (j - 40 * r) (if mm_I σ B r = 0 then 32 else mm_I σ A j) else mm_I σ A j) := by
    intro cn n hn hn40 hsn c1 c2
    unfold fX4_fill_27
    refine pw_sh fun _ => pw_onP (lX4_setSigns e0 hr hr5 hn hn40) fun s2 ⟨o2, v2⟩ => pw_sh fun _ => ?_
    refine pw_onS ((o2.2.1 x 1).trans e1) (pw_ar fun _ _ => pw_ib fun _ _ => pw_let ?_)
    rw [zo_nar1, ecl, if_neg (by rw [zi_lt, show (0 : Int32).toInt = 0 from rfl]; omega)]
    have w : oa [A, B] σ (mm_wI s2 B r 1) := oa_t (oa_m o2 (by simp)) (oa_w (by simp))
    have iA : ∀ j, mm_I (mm_wI s2 B r 1) A j = if 40 * r ≤ j ∧ j < 40 * r + n then 32 else mm_I σ A j := fun j => (mm_up2_ne hAB j).trans (v2 j)
    refine (lX4_fill_46 (t := t) hta hr hr5 hs hs8 hf hf10 hfs _ sp s _ ((w.2.1 x 0).trans e0) ((w.2.2 ta).trans hsh) (fun j => (w.1 ta (by simp; exact ⟨hta, htb⟩) j).trans (ht j)) hs (Nat.le_refl _) (by omega)).mono (fun R hR => ⟨oa_t w (oa_m hR.1 (by simp)), fun k => ?_, fun j => ?_⟩)
    · rw [hR.1.1 B (by simp; exact fun e => hAB e.symm) k]
      by_cases c : k = r
      · subst c; rw [if_pos rfl]; exact mm_up2_self
      · rw [if_neg c]; exact (mm_up2_nk _ c).trans (o2.1 B (by simp; exact fun e => hAB e.symm) k)
    · rw [hR.2 j, iA]
      by_cases c : 40 * r ≤ j ∧ j < 40 * r + 40
      · rw [if_pos c]
        by_cases d : 40 * r + s ≤ j
        · rw [if_pos (by omega)]
          by_cases z : mm_I σ B r = 0
          · have := c1 z
            rw [if_pos (by omega), if_pos z]
          · have := c2 z
            rw [if_neg (by omega), if_neg z]
        · rw [if_neg (by omega), if_pos (by omega)]
          unfold tsg
          rw [if_pos (by omega)]
      · rw [if_neg c, if_neg (by omega), if_neg (by omega)]
  refine pw_sh fun _ => pw_onS e1 (pw_ar fun _ _ => pw_ib fun _ _ => ?_)
  rw [ecl]
  refine pw_ite (fun a => k27 40 40 rfl (by omega) (by omega) (fun _ => rfl) (fun h => absurd a h)) (fun a => k27 sp s hs (by omega) (Nat.le_refl _) (fun h => absurd h a) (fun _ => rfl))
end TX8
/-! The class's store with rows and links: Q i = (page, its text, signs, filled rows, links); g i (100 + r) = row r filled, g i (1000 + 40 r + c) = its signs, g i (200 + k) = links. W = (watched, its text, signs, filled rows) -/
abbrev r_Q : Type := Nat × Nat × Nat × Nat × Nat
def pgo (σ : mm_M) (q : r_Q) : Prop := mm_R σ q.1 0 = some q.2.1 ∧ mm_R σ q.2.1 0 = some q.2.2.1 ∧ mm_R σ q.2.1 1 = some q.2.2.2.1 ∧ mm_R σ q.1 1 = some q.2.2.2.2
def pgv (σ : mm_M) (q : r_Q) (u : Nat → Int32) : Prop := (∀ r, r < 25 → mm_I σ q.2.2.2.1 r = u (100 + r)) ∧ (∀ j, j < 1000 → mm_I σ q.2.2.1 j = u (1000 + j)) ∧ ∀ k, k < 18 → mm_I σ q.2.2.2.2 k = u (200 + k)
def txz (u : Nat → Int32) : Prop := ∀ r, r < 25 → u (100 + r) = 0 → ∀ c, c < 40 → u (1000 + (40 * r + c)) = 0
def r_W (o8 : Nat) (σ : mm_M) (W : Nat × Nat × Nat × Nat) : Prop := mm_R σ o8 8 = some W.1 ∧ mm_R σ W.1 0 = some W.2.1 ∧ mm_R σ W.2.1 0 = some W.2.2.1 ∧ mm_R σ W.2.1 1 = some W.2.2.2
def r_X (Q : Nat → r_Q) (W : Nat × Nat × Nat × Nat) (σ : mm_M) (n : Nat) (g : Nat → Nat → Int32) : Prop := (∀ i, i < n → pgo σ (Q i) ∧ pgv σ (Q i) (g i) ∧ txz (g i)) ∧ (∀ i j, i < n → j < n → i ≠ j → (Q i).2.2.1 ≠ (Q j).2.2.1 ∧ (Q i).2.2.2.1 ≠ (Q j).2.2.2.1 ∧ (Q i).2.2.2.2 ≠ (Q j).2.2.2.2) ∧ ∀ i, i < n → (Q i).2.2.1 ≠ W.2.2.1 ∧ (Q i).2.2.2.1 ≠ W.2.2.2
section RX
variable {T : Nat → Option Nat} {σ σ' : mm_M} {o8 st pl n : Nat} {Q : Nat → r_Q} {W : Nat × Nat × Nat × Nat} {g : Nat → Nat → Int32}
theorem pgo.tp {q : r_Q} (h : pgo σ q) (c : sCI T σ) (t : T q.1 = some 3) : T q.2.1 = some 4 ∧ T q.2.2.1 = some 22 ∧ T q.2.2.2.1 = some 23 ∧ T q.2.2.2.2 = some 24 := by
  obtain ⟨a, e, ta⟩ := ci_ref c t 0 (κ' := 4) rfl
  have : a = q.2.1 := Option.some.inj (e.symm.trans h.1)
  subst this
  obtain ⟨a, e, tb⟩ := ci_ref c ta 0 (κ' := 22) rfl
  have : a = q.2.2.1 := Option.some.inj (e.symm.trans h.2.1)
  subst this
  obtain ⟨a, e, tc⟩ := ci_ref c ta 1 (κ' := 23) rfl
  have : a = q.2.2.2.1 := Option.some.inj (e.symm.trans h.2.2.1)
  subst this
  obtain ⟨a, e, td⟩ := ci_ref c t 1 (κ' := 24) rfl
  have : a = q.2.2.2.2 := Option.some.inj (e.symm.trans h.2.2.2)
  subst this
  exact ⟨ta, tb, tc, td⟩
theorem r_W.tp (h : r_W o8 σ W) (c : sCI T σ) (t8 : T o8 = some 8) : T W.1 = some 7 ∧ T W.2.1 = some 4 ∧ T W.2.2.1 = some 22 ∧ T W.2.2.2 = some 23 := by
  obtain ⟨a, e, t⟩ := ci_ref c t8 8 (κ' := 7) rfl
  have : a = W.1 := Option.some.inj (e.symm.trans h.1)
  subst this
  obtain ⟨a, e, ta⟩ := ci_ref c t 0 (κ' := 4) rfl
  have : a = W.2.1 := Option.some.inj (e.symm.trans h.2.1)
  subst this
  obtain ⟨a, e, tb⟩ := ci_ref c ta 0 (κ' := 22) rfl
  have : a = W.2.2.1 := Option.some.inj (e.symm.trans h.2.2.1)
  subst this
  obtain ⟨a, e, tc⟩ := ci_ref c ta 1 (κ' := 23) rfl
  have : a = W.2.2.2 := Option.some.inj (e.symm.trans h.2.2.2)
  subst this
  exact ⟨t, ta, tb, tc⟩
/-- nothing of the pages' rows and links has changed -/
theorem r_X.same (h : r_X Q W σ n g) (hR : ∀ i, i < n → (∀ k, mm_R σ' (Q i).1 k = mm_R σ (Q i).1 k) ∧ ∀ k, mm_R σ' (Q i).2.1 k = mm_R σ (Q i).2.1 k) (hI : ∀ i, i < n → (∀ k, mm_I σ' (Q i).2.2.1 k = mm_I σ (Q i).2.2.1 k) ∧ (∀ k, mm_I σ' (Q i).2.2.2.1 k = mm_I σ (Q i).2.2.2.1 k) ∧ ∀ k, mm_I σ' (Q i).2.2.2.2 k = mm_I σ (Q i).2.2.2.2 k) : r_X Q W σ' n g := by
  refine ⟨fun i hi => ?_, h.2.1, h.2.2⟩
  obtain ⟨⟨a1, a2, a3, a4⟩, ⟨b1, b2, b3⟩, z⟩ := h.1 i hi
  obtain ⟨r1, r2⟩ := hR i hi
  obtain ⟨i1, i2, i3⟩ := hI i hi
  exact ⟨⟨(r1 0).trans a1, (r2 0).trans a2, (r2 1).trans a3, (r1 1).trans a4⟩, ⟨fun r hr => (i2 r).trans (b1 r hr), fun j hj => (i1 j).trans (b2 j hj), fun k hk => (i3 k).trans (b3 k hk)⟩, z⟩
theorem r_X.fr {K : List Nat} (h : r_X Q W σ n g) (c : sCI T σ) (tQ : ∀ i, i < n → T (Q i).1 = some 3) (f : sFR T K σ σ') (h3 : K.contains 3 = false) (h4 : K.contains 4 = false) (h22 : K.contains 22 = false) (h23 : K.contains 23 = false) (h24 : K.contains 24 = false) : r_X Q W σ' n g :=
  h.same (fun i hi => ⟨fun k => (f.2.2 _ 3 (tQ i hi) k h3).2, fun k => (f.2.2 _ 4 ((h.1 i hi).1.tp c (tQ i hi)).1 k h4).2⟩) (fun i hi => ⟨fun k => (f.2.2 _ 22 ((h.1 i hi).1.tp c (tQ i hi)).2.1 k h22).1, fun k => (f.2.2 _ 23 ((h.1 i hi).1.tp c (tQ i hi)).2.2.1 k h23).1, fun k => (f.2.2 _ 24 ((h.1 i hi).1.tp c (tQ i hi)).2.2.2 k h24).1⟩)
/-- pages are the same in the sense of what is asked -/
theorem r_X.cg {g' : Nat → Nat → Int32} (h : r_X Q W σ n g) (e : ∀ i f, i < n → 100 ≤ f → g i f = g' i f) : r_X Q W σ n g' := by
  refine ⟨fun i hi => ?_, h.2.1, h.2.2⟩
  obtain ⟨a, ⟨b1, b2, b3⟩, z⟩ := h.1 i hi
  refine ⟨a, ⟨fun r hr => (b1 r hr).trans (e i _ hi (by omega)), fun j hj => (b2 j hj).trans (e i _ hi (by omega)), fun k hk => (b3 k hk).trans (e i _ hi (by omega))⟩, fun r hr h0 c hc => ?_⟩
  rw [← e i _ hi (by omega)] at h0 ⊢
  exact z r hr h0 c hc
/-- page j alone has changed -/
theorem r_X.up {j : Nat} {u : Nat → Int32} (h : r_X Q W σ n g) (hR : ∀ i, i < n → (∀ k, mm_R σ' (Q i).1 k = mm_R σ (Q i).1 k) ∧ ∀ k, mm_R σ' (Q i).2.1 k = mm_R σ (Q i).2.1 k) (hI : ∀ i, i < n → i ≠ j → (∀ k, mm_I σ' (Q i).2.2.1 k = mm_I σ (Q i).2.2.1 k) ∧ (∀ k, mm_I σ' (Q i).2.2.2.1 k = mm_I σ (Q i).2.2.2.1 k) ∧ ∀ k, mm_I σ' (Q i).2.2.2.2 k = mm_I σ (Q i).2.2.2.2 k) (hv : pgv σ' (Q j) u) (hz : txz u) : r_X Q W σ' n (q_app g j u) := by
  refine ⟨fun i hi => ?_, h.2.1, h.2.2⟩
  obtain ⟨⟨a1, a2, a3, a4⟩, ⟨b1, b2, b3⟩, z⟩ := h.1 i hi
  obtain ⟨r1, r2⟩ := hR i hi
  refine ⟨⟨(r1 0).trans a1, (r2 0).trans a2, (r2 1).trans a3, (r1 1).trans a4⟩, ?_⟩
  unfold q_app
  by_cases e : i = j
  · subst e; rw [if_pos rfl]; exact ⟨hv, hz⟩
  · rw [if_neg e]
    obtain ⟨i1, i2, i3⟩ := hI i hi e
    exact ⟨⟨fun r hr => (i2 r).trans (b1 r hr), fun j hj => (i1 j).trans (b2 j hj), fun k hk => (i3 k).trans (b3 k hk)⟩, z⟩
/-- through a change at page j's own places (and others that are no page's) -/
theorem r_X.keep {L : List Nat} (h : r_X Q W σ n g) (o : oa L σ σ') (hL : ∀ i, i < n → (Q i).2.2.1 ∉ L ∧ (Q i).2.2.2.1 ∉ L ∧ (Q i).2.2.2.2 ∉ L) : r_X Q W σ' n g :=
  h.same (fun i _ => ⟨fun k => o.2.1 _ k, fun k => o.2.1 _ k⟩) (fun i hi => ⟨fun k => o.1 _ (hL i hi).1 k, fun k => o.1 _ (hL i hi).2.1 k, fun k => o.1 _ (hL i hi).2.2 k⟩)
theorem r_X.oau {L : List Nat} {j : Nat} {u : Nat → Int32} (h : r_X Q W σ n g) (o : oa L σ σ') (hL : ∀ i, i < n → i ≠ j → (Q i).2.2.1 ∉ L ∧ (Q i).2.2.2.1 ∉ L ∧ (Q i).2.2.2.2 ∉ L) (hv : pgv σ' (Q j) u) (hz : txz u) : r_X Q W σ' n (q_app g j u) :=
  h.up (fun i _ => ⟨fun k => o.2.1 _ k, fun k => o.2.1 _ k⟩) (fun i hi hij => ⟨fun k => o.1 _ (hL i hi hij).1 k, fun k => o.1 _ (hL i hi hij).2.1 k, fun k => o.1 _ (hL i hi hij).2.2 k⟩) hv hz
theorem r_W.keep {L : List Nat} (h : r_W o8 σ W) (o : oa L σ σ') : r_W o8 σ' W := ⟨(o.2.1 _ _).trans h.1, (o.2.1 _ _).trans h.2.1, (o.2.1 _ _).trans h.2.2.1, (o.2.1 _ _).trans h.2.2.2⟩
theorem r_X.shf (h : r_X Q W σ n g) {k : Nat} (hk : k < n) : r_X (q_shf Q k) W σ (n - 1) (q_shf g k) := by
  have e : ∀ i, q_shf Q k i = Q (if i < k then i else i + 1) := fun i => by unfold q_shf; split <;> rfl
  have e' : ∀ i, q_shf g k i = g (if i < k then i else i + 1) := fun i => by unfold q_shf; split <;> rfl
  have l : ∀ i, i < n - 1 → (if i < k then i else i + 1) < n := fun i hi => by split <;> omega
  have inj : ∀ i j, i ≠ j → (if i < k then i else i + 1) ≠ (if j < k then j else j + 1) := fun i j h => by
    split <;> split <;> omega
  refine ⟨fun i hi => by rw [e, e']; exact h.1 _ (l i hi), fun i j hi hj hij => by rw [e, e]; exact h.2.1 _ _ (l i hi) (l j hj) (inj i j hij), fun i hi => by rw [e]; exact h.2.2 _ (l i hi)⟩
theorem r_X.app (h : r_X Q W σ n g) {q : r_Q} {u : Nat → Int32} (ho : pgo σ q) (hv : pgv σ q u) (hz : txz u) (hd : ∀ i, i < n → (Q i).2.2.1 ≠ q.2.2.1 ∧ (Q i).2.2.2.1 ≠ q.2.2.2.1 ∧ (Q i).2.2.2.2 ≠ q.2.2.2.2) (hw : q.2.2.1 ≠ W.2.2.1 ∧ q.2.2.2.1 ≠ W.2.2.2) : r_X (q_app Q n q) W σ (n + 1) (q_app g n u) := by
  refine ⟨fun i hi => ?_, fun i j hi hj hij => ?_, fun i hi => ?_⟩
  · unfold q_app
    by_cases e : i = n
    · rw [if_pos e, if_pos e]; exact ⟨ho, hv, hz⟩
    · rw [if_neg e, if_neg e]; exact h.1 i (by omega)
  · unfold q_app
    by_cases e : i = n <;> by_cases d : j = n
    · omega
    · rw [if_pos e, if_neg d]
      have := hd j (by omega)
      exact ⟨fun x => this.1 x.symm, fun x => this.2.1 x.symm, fun x => this.2.2 x.symm⟩
    · rw [if_neg e, if_pos d]; exact hd i (by omega)
    · rw [if_neg e, if_neg d]; exact h.2.1 i j (by omega) (by omega) hij
  · unfold q_app
    by_cases e : i = n
    · rw [if_pos e]; exact hw
    · rw [if_neg e]; exact h.2.2 i (by omega)
end RX
section RB
variable {T : Nat → Option Nat} {σ : mm_M} {o8 st pl n : Nat} {Q : Nat → r_Q} {W : Nat × Nat × Nat × Nat} {g : Nat → Nat → Int32}
theorem rX3_become {q : r_Q} (c : sCI T σ) (t : T q.1 = some 3) (ho : pgo σ q) (h0 : tx0 σ q.2.2.1 q.2.2.2.1) {m k s : Int32} : pw (fX3_become q.1 m k s σ) (fun R => oa [q.1, q.2.2.1, q.2.2.2.1, q.2.2.2.2] σ R ∧ pgv R q (q_new m k s)) := by
  obtain ⟨tx, tA, tB, tL⟩ := ho.tp c t
  unfold fX3_become
  refine pw_sh fun _ => pw_let (pw_let (pw_let (pw_let (pw_let (pw_let (pw_let ?_))))))
  have w : oa [q.1, q.2.2.1, q.2.2.2.1, q.2.2.2.2] σ (mm_wI (mm_wI (mm_wI (mm_wI (mm_wI (mm_wI (mm_wI σ q.1 2 m) q.1 3 k) q.1 4 s) q.1 5 0) q.1 6 0) q.1 7 0) q.1 8 0) :=
    oa_t (oa_t (oa_t (oa_t (oa_t (oa_t (oa_w (by simp)) (oa_w (by simp))) (oa_w (by simp))) (oa_w (by simp))) (oa_w (by simp))) (oa_w (by simp))) (oa_w (by simp))
  have w1 : oa [q.1] σ (mm_wI (mm_wI (mm_wI (mm_wI (mm_wI (mm_wI (mm_wI σ q.1 2 m) q.1 3 k) q.1 4 s) q.1 5 0) q.1 6 0) q.1 7 0) q.1 8 0) :=
    oa_t (oa_t (oa_t (oa_t (oa_t (oa_t (oa_w (by simp)) (oa_w (by simp))) (oa_w (by simp))) (oa_w (by simp))) (oa_w (by simp))) (oa_w (by simp))) (oa_w (by simp))
  generalize mm_wI (mm_wI (mm_wI (mm_wI (mm_wI (mm_wI (mm_wI σ q.1 2 m) q.1 3 k) q.1 4 s) q.1 5 0) q.1 6 0) q.1 7 0) q.1 8 0 = s8 at w w1 ⊢
  have nA : q.2.2.1 ≠ q.1 := q_nek tA t (by decide)
  have nB : q.2.2.2.1 ≠ q.1 := q_nek tB t (by decide)
  have nAB : q.2.2.1 ≠ q.2.2.2.1 := q_nek tA tB (by decide)
  have nLA : q.2.2.2.2 ≠ q.2.2.1 := q_nek tL tA (by decide)
  have nLB : q.2.2.2.2 ≠ q.2.2.2.1 := q_nek tL tB (by decide)
  have h0' : tx0 s8 q.2.2.1 q.2.2.2.1 := fun r hr hb cc hc => by
    rw [w1.1 _ (by simp; exact nA)]; rw [w1.1 _ (by simp; exact nB)] at hb; exact h0 r hr hb cc hc
  refine pw_onS ((w.2.1 _ _).trans ho.1) (pw_sh fun _ => pw_onP (lX4_eraseRows nAB (k := 0) ((w.2.1 _ _).trans ho.2.1) ((w.2.1 _ _).trans ho.2.2.1) rfl (by omega) h0') fun s9 ⟨o9, v9, u9⟩ => pw_sh fun _ => ?_)
  have w9 := oa_t w (oa_m (L' := [q.1, q.2.2.1, q.2.2.2.1, q.2.2.2.2]) o9 (by simp))
  refine pw_onP (lX3_eraseLinks ((w9.2.1 _ _).trans ho.2.2.2) ((w9.2.2 _).trans (ci_sh c tL rfl))) fun s10 ⟨o10, v10⟩ => pw_some ⟨oa_t w9 (oa_m o10 (by simp)), fun r hr => ?_, fun j hj => ?_, fun j hj => ?_⟩
  · rw [o10.1 _ (by simp; exact fun e => nLB e.symm), v9 r hr, if_pos (by omega)]
    unfold q_new
    rw [if_neg (by omega), if_neg (by omega), if_neg (by omega), if_neg (by omega)]
  · rw [o10.1 _ (by simp; exact fun e => nLA e.symm), u9 j hj, if_pos (by omega)]
    unfold q_new
    rw [if_neg (by omega), if_neg (by omega), if_neg (by omega), if_neg (by omega)]
  · rw [v10 j hj]
    unfold q_new
    rw [if_neg (by omega), if_neg (by omega), if_neg (by omega), if_pos (by omega)]
theorem q_new_z {m k s : Int32} : txz (q_new m k s) := fun r hr _ c hc => by
  unfold q_new
  rw [if_neg (by omega), if_neg (by omega), if_neg (by omega), if_neg (by omega)]
end RB
section RC
variable {T : Nat → Option Nat} {σ : mm_M} {o8 st pl n : Nat} {Q : Nat → r_Q} {W : Nat × Nat × Nat × Nat} {g : Nat → Nat → Int32}
/-- only the store's count and row of places have changed -/
theorem r_X.mv {R : mm_M} (h : r_X Q W σ n g) (c : sCI T σ) (ts : T st = some 6) (tpl : T pl = some 25) (tQ : ∀ i, i < n → T (Q i).1 = some 3) (r4 : ∀ a f, a ≠ st → mm_I R a f = mm_I σ a f) (r5 : ∀ a f, a ≠ pl → mm_R R a f = mm_R σ a f) : r_X Q W R n g := by
  refine h.same (fun i hi => ?_) (fun i hi => ?_)
  · obtain ⟨tx, tA, tB, tL⟩ := (h.1 i hi).1.tp c (tQ i hi)
    exact ⟨fun k => r5 _ k (q_nek (tQ i hi) tpl (by decide)), fun k => r5 _ k (q_nek tx tpl (by decide))⟩
  · obtain ⟨tx, tA, tB, tL⟩ := (h.1 i hi).1.tp c (tQ i hi)
    exact ⟨fun k => r4 _ k (q_nek tA ts (by decide)), fun k => r4 _ k (q_nek tB ts (by decide)), fun k => r4 _ k (q_nek tL ts (by decide))⟩
theorem pg_mv {R : mm_M} {q : r_Q} {u : Nat → Int32} (ho : pgo σ q) (hv : pgv σ q u) (c : sCI T σ) (ts : T st = some 6) (tpl : T pl = some 25) (tq : T q.1 = some 3) (r4 : ∀ a f, a ≠ st → mm_I R a f = mm_I σ a f) (r5 : ∀ a f, a ≠ pl → mm_R R a f = mm_R σ a f) : pgo R q ∧ pgv R q u := by
  obtain ⟨tx, tA, tB, tL⟩ := ho.tp c tq
  have nq := q_nek tq tpl (by decide)
  have nx := q_nek tx tpl (by decide)
  exact ⟨⟨(r5 _ _ nq).trans ho.1, (r5 _ _ nx).trans ho.2.1, (r5 _ _ nx).trans ho.2.2.1, (r5 _ _ nq).trans ho.2.2.2⟩, ⟨fun r hr => (r4 _ _ (q_nek tB ts (by decide))).trans (hv.1 r hr), fun j hj => (r4 _ _ (q_nek tA ts (by decide))).trans (hv.2.1 j hj), fun k hk => (r4 _ _ (q_nek tL ts (by decide))).trans (hv.2.2 k hk)⟩⟩
theorem pn_shf (Q : Nat → r_Q) (k : Nat) : (fun i => (q_shf Q k i).1) = q_shf (fun i => (Q i).1) k := by
  funext i; unfold q_shf; split <;> rfl
theorem pn_app (Q : Nat → r_Q) (k : Nat) (q : r_Q) : (fun i => (q_app Q k q i).1) = q_app (fun i => (Q i).1) k q.1 := by
  funext i; unfold q_app; split <;> rfl
theorem rX6_83 (h : q_S8 st pl (fun i => (Q i).1) σ n g) (hx : r_X Q W σ n g) (c : sCI T σ) (ts : T st = some 6) {q : r_Q} {u : Nat → Int32} (tq : T q.1 = some 3) (hn : n < 20) (hf : ∀ i, i < n → (Q i).1 ≠ q.1) (hu : ∀ f, 2 ≤ f → f ≤ 8 → mm_I σ q.1 f = u f) (ho : pgo σ q) (hv : pgv σ q u) (hz : txz u) (hd : ∀ i, i < n → (Q i).2.2.1 ≠ q.2.2.1 ∧ (Q i).2.2.2.1 ≠ q.2.2.2.1 ∧ (Q i).2.2.2.2 ≠ q.2.2.2.2) (hw : q.2.2.1 ≠ W.2.2.1 ∧ q.2.2.2.1 ≠ W.2.2.2) {x1 x2 x3 x4 x5 : Int32} : pw (fX6_bringToEnd_83 st x1 x2 x3 x4 x5 (some q.1) σ) (fun R => R.1 = some q.1 ∧ q_S8 st pl (fun i => (q_app Q n q i).1) R.2 (n + 1) (q_app g n u) ∧ r_X (q_app Q n q) W R.2 (n + 1) (q_app g n u)) := by
  obtain ⟨tpl, tP⟩ := h.tp c ts
  refine (pX6_bring_83 h c ts tq hn hf).mono (fun R hR => ⟨hR.1, ?_, ?_⟩)
  · rw [pn_app]
    refine hR.2.1.cg fun i f hi f1 f2 => ?_
    unfold q_app
    by_cases e : i = n
    · rw [if_pos e, if_pos e]; exact hu f f1 f2
    · rw [if_neg e, if_neg e]
  · obtain ⟨r4, r5⟩ := hR.2.2
    obtain ⟨ho', hv'⟩ := pg_mv ho hv c ts tpl tq r4 r5
    exact (hx.mv c ts tpl tP r4 r5).app ho' hv' hz hd hw
theorem tx0_of {q : r_Q} {u : Nat → Int32} (hv : pgv σ q u) (hz : txz u) : tx0 σ q.2.2.1 q.2.2.2.1 := fun r hr hb c hc => by
  rw [hv.1 r hr] at hb
  rw [hv.2.1 _ (by omega)]
  exact hz r hr hb c hc
theorem rX6_70n (h : q_S8 st pl (fun i => (Q i).1) σ n g) (hx : r_X Q W σ n g) (c : sCI T σ) (ts : T st = some 6) {q : r_Q} (tq : T q.1 = some 3) (hn : n < 20) (hf : ∀ i, i < n → (Q i).1 ≠ q.1) (ho : pgo σ q) (h0 : tx0 σ q.2.2.1 q.2.2.2.1) (hd : ∀ i, i < n → (Q i).2.2.1 ≠ q.2.2.1 ∧ (Q i).2.2.2.1 ≠ q.2.2.2.1 ∧ (Q i).2.2.2.2 ≠ q.2.2.2.2) (hw : q.2.2.1 ≠ W.2.2.1 ∧ q.2.2.2.1 ≠ W.2.2.2) {m k s x4 : Int32} : pw (fX6_bringToEnd_70 st m k s x4 0 (some q.1) σ) (fun R => R.1 = some q.1 ∧ q_S8 st pl (fun i => (q_app Q n q i).1) R.2 (n + 1) (q_app g n (q_new m k s)) ∧ r_X (q_app Q n q) W R.2 (n + 1) (q_app g n (q_new m k s))) := by
  unfold fX6_bringToEnd_70
  obtain ⟨tpl, tP⟩ := h.tp c ts
  obtain ⟨tx, tA, tB, tL⟩ := ho.tp c tq
  rw [if_pos rfl]
  refine pw_onS rfl (pw_sh fun _ => ?_)
  refine pw_onP (fun y e => And.intro (And.intro ((sX3_become c tq).p y e) (pX3_become c tq y e)) (rX3_become c tq ho h0 y e)) fun s2 hh => ?_
  obtain ⟨⟨⟨c2, f2, -⟩, b1, b2, b3⟩, o2, v2⟩ := hh
  have h2 : q_S8 st pl (fun i => (Q i).1) s2 n g := h.same (b3 st 6 ts (by omega) 0) (b2 st 6 ts (q_nek ts tq (by decide)) (by omega) 1) (fun i hi => b3 pl 25 tpl (by omega) i) (fun i hi f => b2 _ 3 (tP i hi) (hf i hi) (by omega) f)
  have hx2 : r_X Q W s2 n g := hx.keep o2 (fun i hi => by
    obtain ⟨ux, uA, uB, uL⟩ := (hx.1 i hi).1.tp c (tP i hi)
    obtain ⟨d1, d2, d3⟩ := hd i hi
    simp only [List.mem_cons, List.not_mem_nil, or_false, not_or]
    exact ⟨⟨q_nek uA tq (by decide), d1, q_nek uA tB (by decide), q_nek uA tL (by decide)⟩, ⟨q_nek uB tq (by decide), q_nek uB tA (by decide), d2, q_nek uB tL (by decide)⟩, ⟨q_nek uL tq (by decide), q_nek uL tA (by decide), q_nek uL tB (by decide), d3⟩⟩)
  have ho2 : pgo s2 q := ⟨(o2.2.1 _ _).trans ho.1, (o2.2.1 _ _).trans ho.2.1, (o2.2.1 _ _).trans ho.2.2.1, (o2.2.1 _ _).trans ho.2.2.2⟩
  exact rX6_83 h2 hx2 c2 ts tq hn hf b1 ho2 v2 q_new_z hd hw
theorem rX6_known (h : q_S8 st pl (fun i => (Q i).1) σ n g) (hx : r_X Q W σ n g) (c : sCI T σ) (ts : T st = some 6) (hpn : pn σ st) {m k s x4 : Int32} {j : Nat} (hxj : x4.toInt = j) (hj : j < n) : pw (fX6_bringToEnd_39 st m k s x4 1 σ) (fun R => R.1 = some (Q j).1 ∧ q_S8 st pl (fun i => (q_app (q_shf Q j) (n - 1) (Q j) i).1) R.2 n (q_app (q_shf g j) (n - 1) (g j)) ∧ r_X (q_app (q_shf Q j) (n - 1) (Q j)) W R.2 n (q_app (q_shf g j) (n - 1) (g j))) := by
  unfold fX6_bringToEnd_39
  obtain ⟨tpl, tP⟩ := h.tp c ts
  refine pw_sh fun _ => pw_onP (pX6_pageAt h x4) fun q hq => ?_
  obtain ⟨e2, hq⟩ := hq
  rw [e2]
  rcases hq with ⟨a1, a2, a3⟩ | ⟨a1, -⟩
  · rw [a3, show x4.toInt.toNat = j by omega]
    show pw (mm_sh σ st (.inl 6) _) _
    refine pw_sh fun _ => ?_
    have hne : ∀ i, i < n → (Q i).1 ≠ st := fun i hi => q_nek (tP i hi) ts (by decide)
    refine pw_onP (fun y e => And.intro ((sX6_takeOut c ts hpn).p y e) (pX6_takeOut h hne (q_nek ts tpl (by decide)) hxj hj y e)) fun s2 hh => ?_
    obtain ⟨⟨c2, f2, -⟩, h2, r4, r5⟩ := hh
    unfold fX6_bringToEnd_70
    rw [if_neg (by decide)]
    obtain ⟨ho, hv, hz⟩ := hx.1 j hj
    obtain ⟨ho', hv'⟩ := pg_mv ho hv c ts tpl (tP j hj) r4 r5
    have hx2 := (hx.mv c ts tpl tP r4 r5).shf hj
    rw [← pn_shf] at h2
    have ne : ∀ i, i < n - 1 → (if i < j then i else i + 1) < n ∧ (if i < j then i else i + 1) ≠ j := fun i hi => by split <;> omega
    have eq : ∀ i, q_shf Q j i = Q (if i < j then i else i + 1) := fun i => by unfold q_shf; split <;> rfl
    refine (rX6_83 (u := g j) h2 hx2 c2 ts (tP j hj) (by have := h.2.2.1; omega) (fun i hi e => ?_) (fun f f1 f2 => ?_) ho' hv' hz (fun i hi => ?_) (hx.2.2 j hj)).mono (fun R hR => ?_)
    · rw [eq] at e
      exact (ne i hi).2 (h.2.2.2.2.2 _ j (ne i hi).1 hj e)
    · rw [r4 _ _ (hne j hj)]; exact h.2.2.2.2.1 j hj f f1 f2
    · rw [eq]
      exact hx.2.1 _ j (ne i hi).1 hj (ne i hi).2
    · have hR' := hR
      rw [show n - 1 + 1 = n by omega] at hR'
      exact hR'
  · exact absurd ⟨by omega, by omega⟩ a1
theorem lX4_init {a : Nat} : pw (fX4_init a σ) (fun R => R = mm_wR (mm_new (mm_wR (mm_new σ (.inr (0, 1000))) a 0 (some σ.1)) (.inr (1, 25))) a 1 (some (σ.1 + 1))) := by
  unfold fX4_init
  exact pw_let (pw_sh fun _ => pw_let (pw_let (pw_sh fun _ => pw_let (pw_some rfl))))
theorem n_R {sh : Nat ⊕ Nat × Nat} {b j : Nat} (h : b ≠ σ.1) : mm_R (mm_new σ sh) b j = mm_R σ b j := by
  show (if b = σ.1 then fun _ => none else σ.2.2.2.1 b) j = _
  rw [if_neg h]
theorem n_I {sh : Nat ⊕ Nat × Nat} {b j : Nat} (h : b ≠ σ.1) : mm_I (mm_new σ sh) b j = mm_I σ b j := by
  show (if b = σ.1 then fun _ => 0 else σ.2.2.1 b) j = _
  rw [if_neg h]
theorem n_I0 {sh : Nat ⊕ Nat × Nat} {b j : Nat} (h : b = σ.1) : mm_I (mm_new σ sh) b j = 0 := by
  show (if b = σ.1 then fun _ => 0 else σ.2.2.1 b) j = _
  rw [if_pos h]
theorem w_R {a k b j : Nat} {v : Option Nat} (h : b ≠ a ∨ j ≠ k) : mm_R (mm_wR σ a k v) b j = mm_R σ b j := by
  rcases h with h | h
  · exact mm_up2_ne h j
  · exact mm_up2_nk _ h
theorem w_R1 {a k : Nat} {v : Option Nat} : mm_R (mm_wR σ a k v) a k = v := mm_up2_self
theorem lX3_init : pw (fX3_init σ.1 (mm_new σ (.inl 3))) (fun R => pgo R (σ.1, σ.1 + 1, σ.1 + 2, σ.1 + 3, σ.1 + 4) ∧ (∀ j, mm_I R (σ.1 + 2) j = 0) ∧ ∀ j, mm_I R (σ.1 + 3) j = 0) := by
  unfold fX3_init
  refine pw_let (pw_onP lX4_init fun q2 e2 => ?_)
  have z1 : (mm_new (mm_new σ (.inl 3)) (.inl 4)).1 = σ.1 + 2 := rfl
  have z0 : (mm_new σ (.inl 3)).1 = σ.1 + 1 := rfl
  rw [z0, z1] at e2
  rw [z0]
  refine pw_sh fun _ => pw_let (pw_let (pw_sh fun _ => pw_let (pw_some ?_)))
  have l2 : q2.1 = σ.1 + 4 := by rw [e2]; rfl
  have za : (mm_new (mm_wR (mm_new (mm_new (mm_new σ (.inl 3)) (.inl 4)) (.inr (0, 1000))) (σ.1 + 1) 0 (some (σ.1 + 2))) (.inr (1, 25))).1 = σ.1 + 4 := rfl
  have zb : (mm_wR (mm_new (mm_new (mm_new σ (.inl 3)) (.inl 4)) (.inr (0, 1000))) (σ.1 + 1) 0 (some (σ.1 + 2))).1 = σ.1 + 3 := rfl
  have zc : (mm_new (mm_new σ (.inl 3)) (.inl 4)).1 = σ.1 + 2 := rfl
  have zq : (mm_wR q2 σ.1 0 (some (σ.1 + 1))).1 = σ.1 + 4 := l2
  have z3 : (mm_wR q2 σ.1 0 (some (σ.1 + 1))).1 = q2.1 := rfl
  have rx0 : mm_R q2 (σ.1 + 1) 0 = some (σ.1 + 2) := by rw [e2, w_R (Or.inr (by decide)), n_R (by rw [zb]; omega), w_R1]
  have rx1 : mm_R q2 (σ.1 + 1) 1 = some (σ.1 + 3) := by rw [e2, w_R1]
  have iA : ∀ j, mm_I q2 (σ.1 + 2) j = 0 := fun j => by
    rw [e2]
    show mm_I (mm_new (mm_wR (mm_new (mm_new (mm_new σ (.inl 3)) (.inl 4)) (.inr (0, 1000))) (σ.1 + 1) 0 (some (σ.1 + 2))) (.inr (1, 25))) (σ.1 + 2) j = 0
    rw [n_I (by rw [zb]; omega)]
    exact n_I0 (sh := .inr (0, 1000)) (σ := mm_new (mm_new σ (.inl 3)) (.inl 4)) zc.symm
  have iB : ∀ j, mm_I q2 (σ.1 + 3) j = 0 := fun j => by
    rw [e2]
    exact n_I0 (sh := .inr (1, 25)) (σ := mm_wR (mm_new (mm_new (mm_new σ (.inl 3)) (.inl 4)) (.inr (0, 1000))) (σ.1 + 1) 0 (some (σ.1 + 2))) zb.symm
  refine ⟨⟨?_, ?_, ?_, ?_⟩, fun j => ?_, fun j => ?_⟩
  · show mm_R (mm_wR (mm_new (mm_wR q2 σ.1 0 (some (σ.1 + 1))) (.inr (0, 18))) σ.1 1 _) σ.1 0 = some (σ.1 + 1)
    rw [w_R (Or.inr (by decide)), n_R (by rw [zq]; omega), w_R1]
  · show mm_R (mm_wR (mm_new (mm_wR q2 σ.1 0 (some (σ.1 + 1))) (.inr (0, 18))) σ.1 1 _) (σ.1 + 1) 0 = some (σ.1 + 2)
    rw [w_R (Or.inl (by omega)), n_R (by rw [zq]; omega), w_R (Or.inl (by omega)), rx0]
  · show mm_R (mm_wR (mm_new (mm_wR q2 σ.1 0 (some (σ.1 + 1))) (.inr (0, 18))) σ.1 1 _) (σ.1 + 1) 1 = some (σ.1 + 3)
    rw [w_R (Or.inl (by omega)), n_R (by rw [zq]; omega), w_R (Or.inl (by omega)), rx1]
  · show mm_R (mm_wR (mm_new (mm_wR q2 σ.1 0 (some (σ.1 + 1))) (.inr (0, 18))) σ.1 1 _) σ.1 1 = some (σ.1 + 4)
    rw [w_R1, zq]
  · show mm_I (mm_new (mm_wR q2 σ.1 0 (some (σ.1 + 1))) (.inr (0, 18))) (σ.1 + 2) j = 0
    rw [n_I (by rw [zq]; omega)]; exact iA j
  · show mm_I (mm_new (mm_wR q2 σ.1 0 (some (σ.1 + 1))) (.inr (0, 18))) (σ.1 + 3) j = 0
    rw [n_I (by rw [zq]; omega)]; exact iB j
theorem rX6_new (h : q_S8 st pl (fun i => (Q i).1) σ n g) (hx : r_X Q W σ n g) (hW : r_W o8 σ W) (c : sCI T σ) (t8 : T o8 = some 8) (ts : T st = some 6) {m k s x4 : Int32} (hx4 : x4 = -1) (hn : n < 20) : pw (fX6_bringToEnd_39 st m k s x4 0 σ) (fun R => ∃ q, R.1 = some q.1 ∧ q_S8 st pl (fun i => (q_app Q n q i).1) R.2 (n + 1) (q_app g n (q_new m k s)) ∧ r_X (q_app Q n q) W R.2 (n + 1) (q_app g n (q_new m k s))) := by
  unfold fX6_bringToEnd_39
  obtain ⟨tpl, tP⟩ := h.tp c ts
  obtain ⟨tw, twx, twa, twb⟩ := hW.tp c t8
  refine pw_sh fun _ => pw_onP (pX6_pageAt h x4) fun q hq => ?_
  obtain ⟨e2, hq⟩ := hq
  rw [e2]
  have hm : x4.toInt = -1 := by rw [hx4]; rfl
  rcases hq with ⟨a1, a2, a3⟩ | ⟨-, a1⟩
  · omega
  · rw [a1]
    refine pw_nu (fun _ => ?_) (fun q e => by cases e)
    refine pw_let (pw_onP (fun y e => And.intro ((sw_newPage c).p y e) (lX3_init y e)) fun s2 hh => ?_)
    obtain ⟨⟨T', tx, c2, f2, t2⟩, ho, z1, z2⟩ := hh
    have h2 : q_S8 st pl (fun i => (Q i).1) s2 n g := h.fr c ts f2 rfl rfl rfl
    have hx2 : r_X Q W s2 n g := hx.fr c tP f2 rfl rfl rfl rfl rfl
    have lt : ∀ a κ, T a = some κ → a < σ.1 := fun a κ t => c.2.2.2.2 a κ t
    refine (rX6_70n (q := (σ.1, σ.1 + 1, σ.1 + 2, σ.1 + 3, σ.1 + 4)) h2 hx2 c2 (tx _ _ ts) t2 hn (fun i hi e => ?_) ho (fun r _ _ cc _ => z1 _) (fun i hi => ?_) ⟨?_, ?_⟩).mono (fun R hR => ⟨_, hR⟩)
    · have := lt _ _ (tP i hi); omega
    · obtain ⟨ux, uA, uB, uL⟩ := (hx.1 i hi).1.tp c (tP i hi)
      have l1 := lt _ _ uA
      have l2 := lt _ _ uB
      have l3 := lt _ _ uL
      refine ⟨fun e => ?_, fun e => ?_, fun e => ?_⟩
      · have e' : (Q i).2.2.1 = σ.1 + 2 := e
        omega
      · have e' : (Q i).2.2.2.1 = σ.1 + 3 := e
        omega
      · have e' : (Q i).2.2.2.2 = σ.1 + 4 := e
        omega
    · intro e
      have l1 := lt _ _ twa
      have e' : σ.1 + 2 = W.2.2.1 := e
      omega
    · intro e
      have l1 := lt _ _ twb
      have e' : σ.1 + 3 = W.2.2.2 := e
      omega
theorem rX6_full (h : q_S8 st pl (fun i => (Q i).1) σ n g) (hx : r_X Q W σ n g) (c : sCI T σ) (ts : T st = some 6) (hpn : pn σ st) {m k s : Int32} (hn : n = 20) : pw (fX6_bringToEnd_39 st m k s 0 0 σ) (fun R => R.1 = some (Q 0).1 ∧ q_S8 st pl (fun i => (q_app (q_shf Q 0) 19 (Q 0) i).1) R.2 20 (q_app (q_shf g 0) 19 (q_new m k s)) ∧ r_X (q_app (q_shf Q 0) 19 (Q 0)) W R.2 20 (q_app (q_shf g 0) 19 (q_new m k s))) := by
  unfold fX6_bringToEnd_39
  obtain ⟨tpl, tP⟩ := h.tp c ts
  refine pw_sh fun _ => pw_onP (pX6_pageAt h 0) fun q hq => ?_
  obtain ⟨e2, hq⟩ := hq
  rw [e2]
  have hz0 : (0 : Int32).toInt = 0 := rfl
  rcases hq with ⟨a1, a2, a3⟩ | ⟨a1, -⟩
  · rw [a3, show (0 : Int32).toInt.toNat = 0 from rfl]
    show pw (mm_sh σ st (.inl 6) _) _
    refine pw_sh fun _ => ?_
    have hne : ∀ i, i < n → (Q i).1 ≠ st := fun i hi => q_nek (tP i hi) ts (by decide)
    refine pw_onP (fun y e => And.intro ((sX6_takeOut c ts hpn).p y e) (pX6_takeOut h hne (q_nek ts tpl (by decide)) (k := 0) rfl (by omega) y e)) fun s2 hh => ?_
    obtain ⟨⟨c2, f2, -⟩, h2, r4, r5⟩ := hh
    subst hn
    obtain ⟨ho, hv, hz⟩ := hx.1 0 (by omega)
    obtain ⟨ho', hv'⟩ := pg_mv ho hv c ts tpl (tP 0 (by omega)) r4 r5
    have hx2 := (hx.mv c ts tpl tP r4 r5).shf (k := 0) (by omega)
    rw [← pn_shf] at h2
    have eq : ∀ i, q_shf Q 0 i = Q (i + 1) := fun i => by unfold q_shf; rw [if_neg (by omega)]
    refine (rX6_70n h2 hx2 c2 ts (tP 0 (by omega)) (by omega) (fun i hi e => ?_) ho' (tx0_of hv' hz) (fun i hi => ?_) (hx.2.2 0 (by omega)))
    · rw [eq] at e
      have := h.2.2.2.2.2 (i + 1) 0 (by omega) (by omega) e
      omega
    · rw [eq]; exact hx.2.1 (i + 1) 0 (by omega) (by omega) (by omega)
  · exact absurd ⟨by omega, by omega⟩ a1
theorem rX6_bring (h : q_S8 st pl (fun i => (Q i).1) σ n g) (hx : r_X Q W σ n g) (hW : r_W o8 σ W) (c : sCI T σ) (t8 : T o8 = some 8) (ts : T st = some 6) (hpn : pn σ st) {m k s : Int32} : pw (fX6_bringToEnd st m k s σ) (fun R => ∃ n' g' Q', 1 ≤ n' ∧ R.1 = some (Q' (n' - 1)).1 ∧ q_S8 st pl (fun i => (Q' i).1) R.2 n' g' ∧ r_X Q' W R.2 n' g' ∧ q_bn n g (fun i => (Q i).1) m k s n' g' (fun i => (Q' i).1)) := by
  unfold fX6_bringToEnd
  have h20 := h.2.2.1
  refine pw_sh fun _ => pw_onP (pX6_placeOf h) fun q hq => ?_
  obtain ⟨e2, hq⟩ := hq
  rw [e2]
  unfold fX6_bringToEnd_20
  rcases hq with ⟨a1, a2⟩ | ⟨a1, a2, a3, -⟩
  · rw [if_pos a1, if_pos rfl]
    refine pw_sh fun _ => pw_ite (fun b => ?_) (fun b => ?_)
    · have hn : n = 20 := by have := h.2.1; rw [b] at this; have hz : (20 : Int32).toInt = 20 := rfl; omega
      refine (rX6_full h hx c ts hpn hn).mono (fun R hR => ⟨20, _, _, by omega, ?_, hR.2.1, hR.2.2, Or.inr (Or.inr ⟨a2, hn, rfl, rfl, (Q 0).1, by rw [pn_app, pn_shf]⟩)⟩)
      rw [q_appl]; exact hR.1
    · have hn : n ≠ 20 := fun e => b (by rw [zi_eq, h.2.1, e]; rfl)
      refine (rX6_new h hx hW c t8 ts a1 (by omega)).mono (fun R hR => ?_)
      obtain ⟨p, r1, r2, r3⟩ := hR
      refine ⟨n + 1, _, _, by omega, ?_, r2, r3, Or.inr (Or.inl ⟨a2, by omega, rfl, rfl, p.1, by rw [pn_app]⟩)⟩
      rw [Nat.add_sub_cancel, q_appl]; exact r1
  · have hm : q.1 ≠ -1 := fun e => by rw [e] at a1; exact absurd a1 (by decide)
    rw [if_neg hm, if_neg (by decide)]
    refine (rX6_known h hx c ts hpn (j := q.1.toInt.toNat) (by omega) (by omega)).mono (fun R hR => ⟨n, _, _, by omega, ?_, hR.2.1, hR.2.2, Or.inl ⟨q.1.toInt.toNat, by omega, a3, rfl, rfl, by rw [pn_app, pn_shf]⟩⟩)
    rw [q_appl]; exact hR.1
end RC
