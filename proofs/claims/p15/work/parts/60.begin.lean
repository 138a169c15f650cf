/-! The first heap, the law's first rows, and its one turn (scripts of at most 6 ints) -/
def lw_M0 (z : Nat) : mm_M := (z, fun _ => none, fun _ _ => 0, fun _ _ => none, fun _ _ => 0)
theorem lw_gd0 (z : Nat) : sGood True (fun _ => none) (lw_M0 z) :=
  ⟨⟨fun a κ h => (by cases h), fun a κ k κ' h => (by cases h), fun a κ k κ' q h => (by cases h), fun a κ j h => (by cases h), fun a κ h => (by cases h)⟩, fun _ a κ j h => (by cases h)⟩
set_option maxHeartbeats 4000000 in
set_option maxRecDepth 100000 in
theorem lw_begin {G : mm_G} {A : Nat → Prop} {b L : Nat} {xs : Nat → Int32} {z : Nat} (kk : ∀ T o8 o9 out σ, lx_Fr T o8 o9 out σ → JL G A b L xs 23 [(0, .ref b), (1, .ref o8), (2, .ref o9), (3, .ref out), (4, .int 0)] [] σ 83 64929) : JL G A b L xs 0 [(0, .ref b)] [] (lw_M0 z) 0 0 := by
  obtain ⟨R8, e8, T8, E8, G8, t8⟩ := nX8 (lw_gd0 z)
  obtain ⟨R9, e9, T9, E9, G9, t9⟩ := nX9 G8
  refine mm_newo cd_ok (c := 8) (N := 14) rfl (by decide) tw_20 tw_21 tw_1 (Nat.le_of_ble_eq_true rfl) (Nat.le_of_ble_eq_true rfl) dL_law_0 ?_
  refine mm_dup dL_law_3 rfl ?_
  refine mm_callIv cd_ok (kX8_init z e8) (Or.inl tw_22) cdX8_init tw_23 rfl nmX8_init rfl rfl (by simp only [List.map_cons, List.map_nil, mm_rf_cat]; exact Nat.le_of_ble_eq_true rfl) dL_law_4 ⟨Nat.le_of_ble_eq_true rfl, Nat.le_of_ble_eq_true rfl⟩ ⟨Nat.le_of_ble_eq_true rfl, Nat.le_of_ble_eq_true rfl⟩ ?_
  refine mm_astore_n (L' := [(1, .ref z), (0, .ref b)]) dL_law_7 rfl (by decide) rfl ?_
  refine mm_newo cd_ok (c := 9) (N := 46) rfl (by decide) tw_788 tw_789 tw_8 (Nat.le_of_ble_eq_true rfl) (Nat.le_of_ble_eq_true rfl) dL_law_8 ?_
  refine mm_dup dL_law_11 rfl ?_
  refine mm_callIv cd_ok (kX9_init R8.1 e9) (Or.inl tw_790) cdX9_init tw_791 rfl nmX9_init rfl rfl (by simp only [List.map_cons, List.map_nil, mm_rf_cat]; exact Nat.le_of_ble_eq_true rfl) dL_law_12 ⟨Nat.le_of_ble_eq_true rfl, Nat.le_of_ble_eq_true rfl⟩ ⟨Nat.le_of_ble_eq_true rfl, Nat.le_of_ble_eq_true rfl⟩ ?_
  refine mm_astore_n (L' := [(2, .ref R8.1), (1, .ref z), (0, .ref b)]) dL_law_15 rfl (by decide) rfl ?_
  refine mm_iconst (v := 1) dL_law_16 (by decide) ?_
  refine mm_newa (atype := .long) (t := 3) (N' := 1) rfl rfl tw_1138 (by decide) (by decide) (by decide) (Nat.le_of_ble_eq_true rfl) (Nat.le_of_ble_eq_true rfl) dL_law_17 ?_
  refine mm_astore_n (L' := [(3, .ref R9.1), (2, .ref R8.1), (1, .ref z), (0, .ref b)]) dL_law_19 rfl (by decide) rfl ?_
  refine mm_iconst (v := 0) dL_law_20 (by decide) ?_
  refine mm_istore (L' := [(4, .int 0), (3, .ref R9.1), (2, .ref R8.1), (1, .ref z), (0, .ref b)]) dL_law_21 (by decide) rfl ?_
  refine mm_widen (ck' := 83) (sk' := 64929) (Nat.le_of_ble_eq_true rfl) (Nat.le_of_ble_eq_true rfl) ?_
  refine mm_sub [4, 3, 2, 1, 0] rfl ?_
  refine kk T9 z R8.1 R9.1 _ ⟨(gd_new G9 (.inr (3, 1))).1, (gd_new G9 (.inr (3, 1))).2 trivial, E9.1 _ _ t8, t9, ci_fresh G9.1 (Nat.le_refl _), ?_, Nat.lt_succ_self _⟩
  show (if R9.1 = R9.1 then some (.inr (3, 1)) else R9.2.1 R9.1) = _
  rw [if_pos rfl]
