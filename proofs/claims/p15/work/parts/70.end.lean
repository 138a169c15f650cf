/-- from the loop's head, with at most n calls left -/
def lw_Lp (G : mm_G) (A : Nat → Prop) (b L o8 o9 out : Nat) (xs : Nat → Int32) (n : Nat) : Prop := ∀ (i : Int32) (σ : mm_M) (ck sk : Nat), lx_I rx_R o8 o9 out σ → 0 ≤ i.toInt ∧ i.toInt ≤ 4000 → (L : Int) ≤ i.toInt + 6 * n → ck + 10 * n ≤ 601024 ∧ sk + 2020 * n ≤ 7293034 → JL G A b L xs 23 [(0, .ref b), (1, .ref o8), (2, .ref o9), (3, .ref out), (4, .int i)] [] σ ck sk
theorem lw_six {i : Int32} (h : 0 ≤ i.toInt ∧ i.toInt ≤ 4000) : (i + 6).toInt = i.toInt + 6 := by
  rw [zi_add]; exact zi_bm (by simp only [Int32.reduceToInt]; omega) (by simp only [Int32.reduceToInt]; omega)
theorem lw_up {G : mm_G} {A : Nat → Prop} {b L o8 o9 out : Nat} {xs : Nat → Int32} {n : Nat} (ih : lw_Lp G A b L o8 o9 out xs n) {i : Int32} {σ : mm_M} {ck sk : Nat} (I : lx_I rx_R o8 o9 out σ) (hi : 0 ≤ i.toInt ∧ i.toInt + 6 ≤ L ∧ L ≤ 4000) (h2 : (L : Int) ≤ i.toInt + 6 * ((n + 1 : Nat) : Int)) (hc : ck + 10 * n ≤ 601024 ∧ sk + 2020 * n ≤ 7293034) : JL G A b L xs 896 [(0, .ref b), (1, .ref o8), (2, .ref o9), (3, .ref out), (4, .int i)] [] σ ck sk := by
  have e := lw_six (i := i) ⟨hi.1, by omega⟩
  exact hL_next (ih (i + 6) σ ck sk I ⟨by omega, by omega⟩ (by omega) hc)
set_option maxHeartbeats 4000000 in
set_option maxRecDepth 100000 in
theorem l2_pair {G : mm_G} {A : Nat → Prop} {b L o8 o9 out : Nat} {xs : Nat → Int32} {n : Nat} (ih : lw_Lp G A b L o8 o9 out xs n) {i : Int32} {σ : mm_M} {ck sk : Nat} (I : lx_I rx_R o8 o9 out σ) (hi : 0 ≤ i.toInt ∧ i.toInt + 6 ≤ L ∧ L ≤ 4000) (h2 : (L : Int) ≤ i.toInt + 6 * ((n + 1 : Nat) : Int)) (hc : ck + 10 * (n + 1) ≤ 601024 ∧ sk + 2020 * (n + 1) ≤ 7293034) : JL G A b L xs 132 [(0, .ref b), (1, .ref o8), (2, .ref o9), (3, .ref out), (4, .int i)] [] σ ck sk := by
  have h8 : σ.2.1 o8 = some (.inl 8) := by
    obtain ⟨T, c, t8, -⟩ := I
    exact ci_sh c t8 rfl
  obtain ⟨X, hX⟩ := g_pair I (xs (i + 1).toNatClampNeg) (xs (i + 2).toNatClampNeg) (xs (i + 3).toNatClampNeg)
  refine bL_pair (N := lx_I rx_R o8 o9 out) hi ⟨by omega, by omega⟩ h8 hX (fun σ' hN => lw_up ih hN hi h2 ⟨by omega, by omega⟩)
set_option maxHeartbeats 4000000 in
set_option maxRecDepth 100000 in
theorem l2_cell {G : mm_G} {A : Nat → Prop} {b L o8 o9 out : Nat} {xs : Nat → Int32} {n : Nat} (ih : lw_Lp G A b L o8 o9 out xs n) {i : Int32} {σ : mm_M} {ck sk : Nat} (I : lx_I rx_R o8 o9 out σ) (hi : 0 ≤ i.toInt ∧ i.toInt + 6 ≤ L ∧ L ≤ 4000) (h2 : (L : Int) ≤ i.toInt + 6 * ((n + 1 : Nat) : Int)) (hc : ck + 10 * (n + 1) ≤ 601024 ∧ sk + 2020 * (n + 1) ≤ 7293034) : JL G A b L xs 184 [(0, .ref b), (1, .ref o8), (2, .ref o9), (3, .ref out), (4, .int i)] [] σ ck sk := by
  have h8 : σ.2.1 o8 = some (.inl 8) := by
    obtain ⟨T, c, t8, -⟩ := I
    exact ci_sh c t8 rfl
  obtain ⟨X, hX⟩ := g_cell I (xs (i + 1).toNatClampNeg) (xs (i + 2).toNatClampNeg) (xs (i + 3).toNatClampNeg) (xs (i + 4).toNatClampNeg) (xs (i + 5).toNatClampNeg)
  refine bL_cell (N := lx_I rx_R o8 o9 out) hi ⟨by omega, by omega⟩ h8 hX (fun σ' hN => lw_up ih hN hi h2 ⟨by omega, by omega⟩)
set_option maxHeartbeats 4000000 in
set_option maxRecDepth 100000 in
theorem l2_state {G : mm_G} {A : Nat → Prop} {b L o8 o9 out : Nat} {xs : Nat → Int32} {n : Nat} (ih : lw_Lp G A b L o8 o9 out xs n) {i : Int32} {σ : mm_M} {ck sk : Nat} (I : lx_I rx_R o8 o9 out σ) (hi : 0 ≤ i.toInt ∧ i.toInt + 6 ≤ L ∧ L ≤ 4000) (h2 : (L : Int) ≤ i.toInt + 6 * ((n + 1 : Nat) : Int)) (hc : ck + 10 * (n + 1) ≤ 601024 ∧ sk + 2020 * (n + 1) ≤ 7293034) : JL G A b L xs 260 [(0, .ref b), (1, .ref o8), (2, .ref o9), (3, .ref out), (4, .int i)] [] σ ck sk := by
  have h8 : σ.2.1 o8 = some (.inl 8) := by
    obtain ⟨T, c, t8, -⟩ := I
    exact ci_sh c t8 rfl
  obtain ⟨X, hX⟩ := g_state I (xs (i + 1).toNatClampNeg) (xs (i + 2).toNatClampNeg)
  refine bL_state (N := lx_I rx_R o8 o9 out) hi ⟨by omega, by omega⟩ h8 hX (fun σ' hN => lw_up ih hN hi h2 ⟨by omega, by omega⟩)
set_option maxHeartbeats 4000000 in
set_option maxRecDepth 100000 in
theorem l2_channel {G : mm_G} {A : Nat → Prop} {b L o8 o9 out : Nat} {xs : Nat → Int32} {n : Nat} (ih : lw_Lp G A b L o8 o9 out xs n) {i : Int32} {σ : mm_M} {ck sk : Nat} (I : lx_I rx_R o8 o9 out σ) (hi : 0 ≤ i.toInt ∧ i.toInt + 6 ≤ L ∧ L ≤ 4000) (h2 : (L : Int) ≤ i.toInt + 6 * ((n + 1 : Nat) : Int)) (hc : ck + 10 * (n + 1) ≤ 601024 ∧ sk + 2020 * (n + 1) ≤ 7293034) : JL G A b L xs 300 [(0, .ref b), (1, .ref o8), (2, .ref o9), (3, .ref out), (4, .int i)] [] σ ck sk := by
  have h8 : σ.2.1 o8 = some (.inl 8) := by
    obtain ⟨T, c, t8, -⟩ := I
    exact ci_sh c t8 rfl
  obtain ⟨X, hX⟩ := g_channel I (xs (i + 1).toNatClampNeg)
  refine bL_channel (N := lx_I rx_R o8 o9 out) hi ⟨by omega, by omega⟩ h8 hX (fun σ' hN => lw_up ih hN hi h2 ⟨by omega, by omega⟩)
set_option maxHeartbeats 4000000 in
set_option maxRecDepth 100000 in
theorem l2_guarded {G : mm_G} {A : Nat → Prop} {b L o8 o9 out : Nat} {xs : Nat → Int32} {n : Nat} (ih : lw_Lp G A b L o8 o9 out xs n) {i : Int32} {σ : mm_M} {ck sk : Nat} (I : lx_I rx_R o8 o9 out σ) (hi : 0 ≤ i.toInt ∧ i.toInt + 6 ≤ L ∧ L ≤ 4000) (h2 : (L : Int) ≤ i.toInt + 6 * ((n + 1 : Nat) : Int)) (hc : ck + 10 * (n + 1) ≤ 601024 ∧ sk + 2020 * (n + 1) ≤ 7293034) : JL G A b L xs 328 [(0, .ref b), (1, .ref o8), (2, .ref o9), (3, .ref out), (4, .int i)] [] σ ck sk := by
  have h8 : σ.2.1 o8 = some (.inl 8) := by
    obtain ⟨T, c, t8, -⟩ := I
    exact ci_sh c t8 rfl
  obtain ⟨X, hX⟩ := g_guarded I (xs (i + 1).toNatClampNeg)
  refine bL_guarded (N := lx_I rx_R o8 o9 out) hi ⟨by omega, by omega⟩ h8 hX (fun σ' hN => lw_up ih hN hi h2 ⟨by omega, by omega⟩)
set_option maxHeartbeats 4000000 in
set_option maxRecDepth 100000 in
theorem l2_feed {G : mm_G} {A : Nat → Prop} {b L o8 o9 out : Nat} {xs : Nat → Int32} {n : Nat} (ih : lw_Lp G A b L o8 o9 out xs n) {i : Int32} {σ : mm_M} {ck sk : Nat} (I : lx_I rx_R o8 o9 out σ) (hi : 0 ≤ i.toInt ∧ i.toInt + 6 ≤ L ∧ L ≤ 4000) (h2 : (L : Int) ≤ i.toInt + 6 * ((n + 1 : Nat) : Int)) (hc : ck + 10 * (n + 1) ≤ 601024 ∧ sk + 2020 * (n + 1) ≤ 7293034) : JL G A b L xs 353 [(0, .ref b), (1, .ref o8), (2, .ref o9), (3, .ref out), (4, .int i)] [] σ ck sk := by
  have h8 : σ.2.1 o8 = some (.inl 8) := by
    obtain ⟨T, c, t8, -⟩ := I
    exact ci_sh c t8 rfl
  obtain ⟨X, hX⟩ := g_feed I (xs (i + 1).toNatClampNeg) (xs (i + 2).toNatClampNeg) (xs (i + 3).toNatClampNeg) (xs (i + 4).toNatClampNeg) (xs (i + 5).toNatClampNeg)
  refine bL_feed (N := lx_I rx_R o8 o9 out) hi ⟨by omega, by omega⟩ h8 hX (fun σ' hN => lw_up ih hN hi h2 ⟨by omega, by omega⟩)
set_option maxHeartbeats 4000000 in
set_option maxRecDepth 100000 in
theorem l2_packet {G : mm_G} {A : Nat → Prop} {b L o8 o9 out : Nat} {xs : Nat → Int32} {n : Nat} (ih : lw_Lp G A b L o8 o9 out xs n) {i : Int32} {σ : mm_M} {ck sk : Nat} (I : lx_I rx_R o8 o9 out σ) (hi : 0 ≤ i.toInt ∧ i.toInt + 6 ≤ L ∧ L ≤ 4000) (h2 : (L : Int) ≤ i.toInt + 6 * ((n + 1 : Nat) : Int)) (hc : ck + 10 * (n + 1) ≤ 601024 ∧ sk + 2020 * (n + 1) ≤ 7293034) : JL G A b L xs 429 [(0, .ref b), (1, .ref o8), (2, .ref o9), (3, .ref out), (4, .int i)] [] σ ck sk := by
  have h8 : σ.2.1 o8 = some (.inl 8) := by
    obtain ⟨T, c, t8, -⟩ := I
    exact ci_sh c t8 rfl
  obtain ⟨X, hX⟩ := g_packet I
  refine bL_packet (N := lx_I rx_R o8 o9 out) hi ⟨by omega, by omega⟩ h8 hX (fun σ' hN => lw_up ih hN hi h2 ⟨by omega, by omega⟩)
set_option maxHeartbeats 4000000 in
set_option maxRecDepth 100000 in
theorem l2_nothing {G : mm_G} {A : Nat → Prop} {b L o8 o9 out : Nat} {xs : Nat → Int32} {n : Nat} (ih : lw_Lp G A b L o8 o9 out xs n) {i : Int32} {σ : mm_M} {ck sk : Nat} (I : lx_I rx_R o8 o9 out σ) (hi : 0 ≤ i.toInt ∧ i.toInt + 6 ≤ L ∧ L ≤ 4000) (h2 : (L : Int) ≤ i.toInt + 6 * ((n + 1 : Nat) : Int)) (hc : ck + 10 * (n + 1) ≤ 601024 ∧ sk + 2020 * (n + 1) ≤ 7293034) : JL G A b L xs 445 [(0, .ref b), (1, .ref o8), (2, .ref o9), (3, .ref out), (4, .int i)] [] σ ck sk := by
  have h8 : σ.2.1 o8 = some (.inl 8) := by
    obtain ⟨T, c, t8, -⟩ := I
    exact ci_sh c t8 rfl
  obtain ⟨X, hX⟩ := g_nothing I (xs (i + 1).toNatClampNeg)
  refine bL_nothing (N := lx_I rx_R o8 o9 out) hi ⟨by omega, by omega⟩ h8 hX (fun σ' hN => lw_up ih hN hi h2 ⟨by omega, by omega⟩)
set_option maxHeartbeats 4000000 in
set_option maxRecDepth 100000 in
theorem l2_pages {G : mm_G} {A : Nat → Prop} {b L o8 o9 out : Nat} {xs : Nat → Int32} {n : Nat} (ih : lw_Lp G A b L o8 o9 out xs n) {i : Int32} {σ : mm_M} {ck sk : Nat} (I : lx_I rx_R o8 o9 out σ) (hi : 0 ≤ i.toInt ∧ i.toInt + 6 ≤ L ∧ L ≤ 4000) (h2 : (L : Int) ≤ i.toInt + 6 * ((n + 1 : Nat) : Int)) (hc : ck + 10 * (n + 1) ≤ 601024 ∧ sk + 2020 * (n + 1) ≤ 7293034) : JL G A b L xs 473 [(0, .ref b), (1, .ref o8), (2, .ref o9), (3, .ref out), (4, .int i)] [] σ ck sk := by
  have h8 : σ.2.1 o8 = some (.inl 8) := by
    obtain ⟨T, c, t8, -⟩ := I
    exact ci_sh c t8 rfl
  obtain ⟨X, hX⟩ := g_pages I
  refine bL_pages (N := lx_I rx_R o8 o9 out) hi ⟨by omega, by omega⟩ h8 hX (fun σ' hN => lw_up ih hN hi h2 ⟨by omega, by omega⟩)
set_option maxHeartbeats 4000000 in
set_option maxRecDepth 100000 in
theorem l2_find {G : mm_G} {A : Nat → Prop} {b L o8 o9 out : Nat} {xs : Nat → Int32} {n : Nat} (ih : lw_Lp G A b L o8 o9 out xs n) {i : Int32} {σ : mm_M} {ck sk : Nat} (I : lx_I rx_R o8 o9 out σ) (hi : 0 ≤ i.toInt ∧ i.toInt + 6 ≤ L ∧ L ≤ 4000) (h2 : (L : Int) ≤ i.toInt + 6 * ((n + 1 : Nat) : Int)) (hc : ck + 10 * (n + 1) ≤ 601024 ∧ sk + 2020 * (n + 1) ≤ 7293034) : JL G A b L xs 486 [(0, .ref b), (1, .ref o8), (2, .ref o9), (3, .ref out), (4, .int i)] [] σ ck sk := by
  have h8 : σ.2.1 o8 = some (.inl 8) := by
    obtain ⟨T, c, t8, -⟩ := I
    exact ci_sh c t8 rfl
  obtain ⟨X, hX⟩ := g_find I (xs (i + 1).toNatClampNeg) (xs (i + 2).toNatClampNeg) (xs (i + 3).toNatClampNeg)
  refine bL_find (N := lx_I rx_R o8 o9 out) hi ⟨by omega, by omega⟩ h8 hX (fun σ' hN => lw_up ih hN hi h2 ⟨by omega, by omega⟩)
set_option maxHeartbeats 4000000 in
set_option maxRecDepth 100000 in
theorem l2_page {G : mm_G} {A : Nat → Prop} {b L o8 o9 out : Nat} {xs : Nat → Int32} {n : Nat} (ih : lw_Lp G A b L o8 o9 out xs n) {i : Int32} {σ : mm_M} {ck sk : Nat} (I : lx_I rx_R o8 o9 out σ) (hi : 0 ≤ i.toInt ∧ i.toInt + 6 ≤ L ∧ L ≤ 4000) (h2 : (L : Int) ≤ i.toInt + 6 * ((n + 1 : Nat) : Int)) (hc : ck + 10 * (n + 1) ≤ 601024 ∧ sk + 2020 * (n + 1) ≤ 7293034) : JL G A b L xs 535 [(0, .ref b), (1, .ref o8), (2, .ref o9), (3, .ref out), (4, .int i)] [] σ ck sk := by
  have h8 : σ.2.1 o8 = some (.inl 8) := by
    obtain ⟨T, c, t8, -⟩ := I
    exact ci_sh c t8 rfl
  obtain ⟨X, hX⟩ := g_page I (xs (i + 1).toNatClampNeg) (xs (i + 2).toNatClampNeg)
  refine bL_page (N := lx_I rx_R o8 o9 out) hi ⟨by omega, by omega⟩ h8 hX (fun σ' hN => lw_up ih hN hi h2 ⟨by omega, by omega⟩)
set_option maxHeartbeats 4000000 in
set_option maxRecDepth 100000 in
theorem l2_sign {G : mm_G} {A : Nat → Prop} {b L o8 o9 out : Nat} {xs : Nat → Int32} {n : Nat} (ih : lw_Lp G A b L o8 o9 out xs n) {i : Int32} {σ : mm_M} {ck sk : Nat} (I : lx_I rx_R o8 o9 out σ) (hi : 0 ≤ i.toInt ∧ i.toInt + 6 ≤ L ∧ L ≤ 4000) (h2 : (L : Int) ≤ i.toInt + 6 * ((n + 1 : Nat) : Int)) (hc : ck + 10 * (n + 1) ≤ 601024 ∧ sk + 2020 * (n + 1) ≤ 7293034) : JL G A b L xs 575 [(0, .ref b), (1, .ref o8), (2, .ref o9), (3, .ref out), (4, .int i)] [] σ ck sk := by
  have h8 : σ.2.1 o8 = some (.inl 8) := by
    obtain ⟨T, c, t8, -⟩ := I
    exact ci_sh c t8 rfl
  obtain ⟨X, hX⟩ := g_sign I (xs (i + 1).toNatClampNeg) (xs (i + 2).toNatClampNeg) (xs (i + 3).toNatClampNeg)
  refine bL_sign (N := lx_I rx_R o8 o9 out) hi ⟨by omega, by omega⟩ h8 hX (fun σ' hN => lw_up ih hN hi h2 ⟨by omega, by omega⟩)
set_option maxHeartbeats 4000000 in
set_option maxRecDepth 100000 in
theorem l2_link {G : mm_G} {A : Nat → Prop} {b L o8 o9 out : Nat} {xs : Nat → Int32} {n : Nat} (ih : lw_Lp G A b L o8 o9 out xs n) {i : Int32} {σ : mm_M} {ck sk : Nat} (I : lx_I rx_R o8 o9 out σ) (hi : 0 ≤ i.toInt ∧ i.toInt + 6 ≤ L ∧ L ≤ 4000) (h2 : (L : Int) ≤ i.toInt + 6 * ((n + 1 : Nat) : Int)) (hc : ck + 10 * (n + 1) ≤ 601024 ∧ sk + 2020 * (n + 1) ≤ 7293034) : JL G A b L xs 627 [(0, .ref b), (1, .ref o8), (2, .ref o9), (3, .ref out), (4, .int i)] [] σ ck sk := by
  have h8 : σ.2.1 o8 = some (.inl 8) := by
    obtain ⟨T, c, t8, -⟩ := I
    exact ci_sh c t8 rfl
  obtain ⟨X, hX⟩ := g_link I (xs (i + 1).toNatClampNeg) (xs (i + 2).toNatClampNeg) (xs (i + 3).toNatClampNeg)
  refine bL_link (N := lx_I rx_R o8 o9 out) hi ⟨by omega, by omega⟩ h8 hX (fun σ' hN => lw_up ih hN hi h2 ⟨by omega, by omega⟩)
set_option maxHeartbeats 4000000 in
set_option maxRecDepth 100000 in
theorem l2_open {G : mm_G} {A : Nat → Prop} {b L o8 o9 out : Nat} {xs : Nat → Int32} {n : Nat} (ih : lw_Lp G A b L o8 o9 out xs n) {i : Int32} {σ : mm_M} {ck sk : Nat} (I : lx_I rx_R o8 o9 out σ) (hi : 0 ≤ i.toInt ∧ i.toInt + 6 ≤ L ∧ L ≤ 4000) (h2 : (L : Int) ≤ i.toInt + 6 * ((n + 1 : Nat) : Int)) (hc : ck + 10 * (n + 1) ≤ 601024 ∧ sk + 2020 * (n + 1) ≤ 7293034) : JL G A b L xs 679 [(0, .ref b), (1, .ref o8), (2, .ref o9), (3, .ref out), (4, .int i)] [] σ ck sk := by
  have h8 : σ.2.1 o8 = some (.inl 8) := by
    obtain ⟨T, c, t8, -⟩ := I
    exact ci_sh c t8 rfl
  refine bL_open (N := lx_I rx_R o8 o9 out) hi ⟨by omega, by omega⟩ h8 (g_open I _) (fun σ' hN => lw_up ih hN hi h2 ⟨by omega, by omega⟩)
set_option maxHeartbeats 4000000 in
set_option maxRecDepth 100000 in
theorem l2_watch {G : mm_G} {A : Nat → Prop} {b L o8 o9 out : Nat} {xs : Nat → Int32} {n : Nat} (ih : lw_Lp G A b L o8 o9 out xs n) {i : Int32} {σ : mm_M} {ck sk : Nat} (I : lx_I rx_R o8 o9 out σ) (hi : 0 ≤ i.toInt ∧ i.toInt + 6 ≤ L ∧ L ≤ 4000) (h2 : (L : Int) ≤ i.toInt + 6 * ((n + 1 : Nat) : Int)) (hc : ck + 10 * (n + 1) ≤ 601024 ∧ sk + 2020 * (n + 1) ≤ 7293034) : JL G A b L xs 735 [(0, .ref b), (1, .ref o8), (2, .ref o9), (3, .ref out), (4, .int i)] [] σ ck sk := by
  have h8 : σ.2.1 o8 = some (.inl 8) := by
    obtain ⟨T, c, t8, -⟩ := I
    exact ci_sh c t8 rfl
  obtain ⟨X, hX⟩ := g_watch I (xs (i + 1).toNatClampNeg) (xs (i + 2).toNatClampNeg)
  refine bL_watch (N := lx_I rx_R o8 o9 out) hi ⟨by omega, by omega⟩ h8 hX (fun σ' hN => lw_up ih hN hi h2 ⟨by omega, by omega⟩)
set_option maxHeartbeats 4000000 in
set_option maxRecDepth 100000 in
theorem l2_tick {G : mm_G} {A : Nat → Prop} {b L o8 o9 out : Nat} {xs : Nat → Int32} {n : Nat} (ih : lw_Lp G A b L o8 o9 out xs n) {i : Int32} {σ : mm_M} {ck sk : Nat} (I : lx_I rx_R o8 o9 out σ) (hi : 0 ≤ i.toInt ∧ i.toInt + 6 ≤ L ∧ L ≤ 4000) (h2 : (L : Int) ≤ i.toInt + 6 * ((n + 1 : Nat) : Int)) (hc : ck + 10 * (n + 1) ≤ 601024 ∧ sk + 2020 * (n + 1) ≤ 7293034) : JL G A b L xs 775 [(0, .ref b), (1, .ref o8), (2, .ref o9), (3, .ref out), (4, .int i)] [] σ ck sk := by
  have h8 : σ.2.1 o8 = some (.inl 8) := by
    obtain ⟨T, c, t8, -⟩ := I
    exact ci_sh c t8 rfl
  obtain ⟨X, hX⟩ := g_tick I (xs (i + 1).toNatClampNeg)
  refine bL_tick (N := lx_I rx_R o8 o9 out) hi ⟨by omega, by omega⟩ h8 hX (fun σ' hN => lw_up ih hN hi h2 ⟨by omega, by omega⟩)
set_option maxHeartbeats 4000000 in
set_option maxRecDepth 100000 in
theorem l2_cues {G : mm_G} {A : Nat → Prop} {b L o8 o9 out : Nat} {xs : Nat → Int32} {n : Nat} (ih : lw_Lp G A b L o8 o9 out xs n) {i : Int32} {σ : mm_M} {ck sk : Nat} (I : lx_I rx_R o8 o9 out σ) (hi : 0 ≤ i.toInt ∧ i.toInt + 6 ≤ L ∧ L ≤ 4000) (h2 : (L : Int) ≤ i.toInt + 6 * ((n + 1 : Nat) : Int)) (hc : ck + 10 * (n + 1) ≤ 601024 ∧ sk + 2020 * (n + 1) ≤ 7293034) : JL G A b L xs 803 [(0, .ref b), (1, .ref o8), (2, .ref o9), (3, .ref out), (4, .int i)] [] σ ck sk := by
  have h8 : σ.2.1 o8 = some (.inl 8) := by
    obtain ⟨T, c, t8, -⟩ := I
    exact ci_sh c t8 rfl
  obtain ⟨X, hX⟩ := g_cues I
  refine bL_cues (N := lx_I rx_R o8 o9 out) hi ⟨by omega, by omega⟩ h8 hX (fun σ' hN => lw_up ih hN hi h2 ⟨by omega, by omega⟩)
set_option maxHeartbeats 4000000 in
set_option maxRecDepth 100000 in
theorem l2_cue {G : mm_G} {A : Nat → Prop} {b L o8 o9 out : Nat} {xs : Nat → Int32} {n : Nat} (ih : lw_Lp G A b L o8 o9 out xs n) {i : Int32} {σ : mm_M} {ck sk : Nat} (I : lx_I rx_R o8 o9 out σ) (hi : 0 ≤ i.toInt ∧ i.toInt + 6 ≤ L ∧ L ≤ 4000) (h2 : (L : Int) ≤ i.toInt + 6 * ((n + 1 : Nat) : Int)) (hc : ck + 10 * (n + 1) ≤ 601024 ∧ sk + 2020 * (n + 1) ≤ 7293034) : JL G A b L xs 816 [(0, .ref b), (1, .ref o8), (2, .ref o9), (3, .ref out), (4, .int i)] [] σ ck sk := by
  have h8 : σ.2.1 o8 = some (.inl 8) := by
    obtain ⟨T, c, t8, -⟩ := I
    exact ci_sh c t8 rfl
  obtain ⟨X, hX⟩ := g_cue I (xs (i + 1).toNatClampNeg) (xs (i + 2).toNatClampNeg)
  refine bL_cue (N := lx_I rx_R o8 o9 out) hi ⟨by omega, by omega⟩ h8 hX (fun σ' hN => lw_up ih hN hi h2 ⟨by omega, by omega⟩)
set_option maxHeartbeats 4000000 in
set_option maxRecDepth 100000 in
theorem l2_line {G : mm_G} {A : Nat → Prop} {b L o8 o9 out : Nat} {xs : Nat → Int32} {n : Nat} (ih : lw_Lp G A b L o8 o9 out xs n) {i : Int32} {σ : mm_M} {ck sk : Nat} (I : lx_I rx_R o8 o9 out σ) (hi : 0 ≤ i.toInt ∧ i.toInt + 6 ≤ L ∧ L ≤ 4000) (h2 : (L : Int) ≤ i.toInt + 6 * ((n + 1 : Nat) : Int)) (hc : ck + 10 * (n + 1) ≤ 601024 ∧ sk + 2020 * (n + 1) ≤ 7293034) : JL G A b L xs 856 [(0, .ref b), (1, .ref o8), (2, .ref o9), (3, .ref out), (4, .int i)] [] σ ck sk := by
  have h8 : σ.2.1 o8 = some (.inl 8) := by
    obtain ⟨T, c, t8, -⟩ := I
    exact ci_sh c t8 rfl
  obtain ⟨X, hX⟩ := g_line I (xs (i + 1).toNatClampNeg) (xs (i + 2).toNatClampNeg)
  refine bL_line (N := lx_I rx_R o8 o9 out) hi ⟨by omega, by omega⟩ h8 hX (fun σ' hN => lw_up ih hN hi h2 ⟨by omega, by omega⟩)
set_option maxHeartbeats 4000000 in
set_option maxRecDepth 100000 in
theorem lw_loop {G : mm_G} {A : Nat → Prop} {b L o8 o9 out : Nat} {xs : Nat → Int32} (hL : L ≤ 3072) : ∀ n, lw_Lp G A b L o8 o9 out xs n := by
  intro n
  induction n with
  | zero =>
    intro i σ ck sk I h1 h2 hc
    have hd : ¬ (0 ≤ i.toInt ∧ i.toInt + 6 ≤ L ∧ L ≤ 4000) := by omega
    exact hL_head (by omega) h1.1 ⟨by show ck ≤ 601024; omega, by show sk ≤ 7293034; omega⟩ (fun hi _ => absurd hi hd) (fun hi _ => absurd hi hd) (fun hi _ => absurd hi hd) (fun hi _ => absurd hi hd) (fun hi _ => absurd hi hd) (fun hi _ => absurd hi hd) (fun hi _ => absurd hi hd) (fun hi _ => absurd hi hd) (fun hi _ => absurd hi hd) (fun hi _ => absurd hi hd) (fun hi _ => absurd hi hd) (fun hi _ => absurd hi hd) (fun hi _ => absurd hi hd) (fun hi _ => absurd hi hd) (fun hi _ => absurd hi hd) (fun hi _ => absurd hi hd) (fun hi _ => absurd hi hd) (fun hi _ => absurd hi hd) (fun hi _ => absurd hi hd) (fun hi => absurd hi hd)
  | succ n ih =>
    intro i σ ck sk I h1 h2 hc
    refine hL_head (by omega) h1.1 ⟨by show ck ≤ 601024; omega, by show sk ≤ 7293034; omega⟩ ?_ ?_ ?_ ?_ ?_ ?_ ?_ ?_ ?_ ?_ ?_ ?_ ?_ ?_ ?_ ?_ ?_ ?_ ?_ ?_
    · exact fun hi _ => l2_pair ih I hi h2 hc
    · exact fun hi _ => l2_cell ih I hi h2 hc
    · exact fun hi _ => l2_state ih I hi h2 hc
    · exact fun hi _ => l2_channel ih I hi h2 hc
    · exact fun hi _ => l2_guarded ih I hi h2 hc
    · exact fun hi _ => l2_feed ih I hi h2 hc
    · exact fun hi _ => l2_packet ih I hi h2 hc
    · exact fun hi _ => l2_nothing ih I hi h2 hc
    · exact fun hi _ => l2_pages ih I hi h2 hc
    · exact fun hi _ => l2_find ih I hi h2 hc
    · exact fun hi _ => l2_page ih I hi h2 hc
    · exact fun hi _ => l2_sign ih I hi h2 hc
    · exact fun hi _ => l2_link ih I hi h2 hc
    · exact fun hi _ => l2_open ih I hi h2 hc
    · exact fun hi _ => l2_watch ih I hi h2 hc
    · exact fun hi _ => l2_tick ih I hi h2 hc
    · exact fun hi _ => l2_cues ih I hi h2 hc
    · exact fun hi _ => l2_cue ih I hi h2 hc
    · exact fun hi _ => l2_line ih I hi h2 hc
    · exact fun hi => lw_up ih I hi h2 ⟨by omega, by omega⟩
theorem lw_all {G : mm_G} {A : Nat → Prop} {b L : Nat} {xs : Nat → Int32} {z : Nat} (hL : L ≤ 3072) : JL G A b L xs 0 [(0, .ref b)] [] (lw_M0 z) 0 0 := by
  refine lw_begin (fun T o8 o9 out σ F => ?_)
  exact lw_loop hL 513 0 σ 83 64929 (fr_I F (rx_0 F)) ⟨by decide, by decide⟩ (by show (L : Int) ≤ 0 + 6 * 513; omega) ⟨Nat.le_of_ble_eq_true rfl, Nat.le_of_ble_eq_true rfl⟩
