theorem lw_dead {i : Int32} {L : Nat} (hL : L ≤ 6) (h : i.toInt = 6) : ¬ (0 ≤ i.toInt ∧ i.toInt + 6 ≤ L ∧ L ≤ 4000) := by omega
theorem lw_exit {G : mm_G} {A : Nat → Prop} {b L o8 o9 out : Nat} {xs : Nat → Int32} {i : Int32} {σ : mm_M} {ck sk : Nat} (hL : L ≤ 6) (h6 : i.toInt = 6) (hc : ck ≤ LWC ∧ sk ≤ LWS) : JL G A b L xs 23 [(0, .ref b), (1, .ref o8), (2, .ref o9), (3, .ref out), (4, .int i)] [] σ ck sk :=
  hL_head (by omega) (by omega) hc (fun hi _ => absurd hi (lw_dead hL h6)) (fun hi _ => absurd hi (lw_dead hL h6)) (fun hi _ => absurd hi (lw_dead hL h6)) (fun hi _ => absurd hi (lw_dead hL h6)) (fun hi _ => absurd hi (lw_dead hL h6)) (fun hi _ => absurd hi (lw_dead hL h6)) (fun hi _ => absurd hi (lw_dead hL h6)) (fun hi _ => absurd hi (lw_dead hL h6)) (fun hi _ => absurd hi (lw_dead hL h6)) (fun hi _ => absurd hi (lw_dead hL h6)) (fun hi _ => absurd hi (lw_dead hL h6)) (fun hi _ => absurd hi (lw_dead hL h6)) (fun hi _ => absurd hi (lw_dead hL h6)) (fun hi _ => absurd hi (lw_dead hL h6)) (fun hi _ => absurd hi (lw_dead hL h6)) (fun hi _ => absurd hi (lw_dead hL h6)) (fun hi _ => absurd hi (lw_dead hL h6)) (fun hi _ => absurd hi (lw_dead hL h6)) (fun hi _ => absurd hi (lw_dead hL h6)) (fun hi => absurd hi (lw_dead hL h6))
set_option maxHeartbeats 4000000 in
set_option maxRecDepth 100000 in
theorem e1_pair {G : mm_G} {A : Nat → Prop} {b L o8 o9 out : Nat} {xs : Nat → Int32} {T : Nat → Option Nat} {σ : mm_M} (hL : L ≤ 6) (F : lx_Fr T o8 o9 out σ) (hi : 0 ≤ (0 : Int32).toInt ∧ (0 : Int32).toInt + 6 ≤ L ∧ L ≤ 4000) : JL G A b L xs 132 [(0, .ref b), (1, .ref o8), (2, .ref o9), (3, .ref out), (4, .int 0)] [] σ 83 64929 := by
  refine bL_pair (N := fun _ => True) hi ⟨Nat.le_of_ble_eq_true rfl, Nat.le_of_ble_eq_true rfl⟩ (ci_sh F.1 F.2.2.1 rfl) ?_ (fun σ' _ => ?_)
  · exact st_pair F _ _ _
  · exact hL_next (lw_exit hL (by decide) ⟨Nat.le_of_ble_eq_true rfl, Nat.le_of_ble_eq_true rfl⟩)
set_option maxHeartbeats 4000000 in
set_option maxRecDepth 100000 in
theorem e1_cell {G : mm_G} {A : Nat → Prop} {b L o8 o9 out : Nat} {xs : Nat → Int32} {T : Nat → Option Nat} {σ : mm_M} (hL : L ≤ 6) (F : lx_Fr T o8 o9 out σ) (hi : 0 ≤ (0 : Int32).toInt ∧ (0 : Int32).toInt + 6 ≤ L ∧ L ≤ 4000) : JL G A b L xs 212 [(0, .ref b), (1, .ref o8), (2, .ref o9), (3, .ref out), (4, .int 0)] [] σ 83 64929 := by
  refine bL_cell (N := fun _ => True) hi ⟨Nat.le_of_ble_eq_true rfl, Nat.le_of_ble_eq_true rfl⟩ (ci_sh F.1 F.2.2.1 rfl) ?_ (fun σ' _ => ?_)
  · exact st_cell F _ _ _ _ _
  · exact hL_next (lw_exit hL (by decide) ⟨Nat.le_of_ble_eq_true rfl, Nat.le_of_ble_eq_true rfl⟩)
set_option maxHeartbeats 4000000 in
set_option maxRecDepth 100000 in
theorem e1_state {G : mm_G} {A : Nat → Prop} {b L o8 o9 out : Nat} {xs : Nat → Int32} {T : Nat → Option Nat} {σ : mm_M} (hL : L ≤ 6) (F : lx_Fr T o8 o9 out σ) (hi : 0 ≤ (0 : Int32).toInt ∧ (0 : Int32).toInt + 6 ≤ L ∧ L ≤ 4000) : JL G A b L xs 316 [(0, .ref b), (1, .ref o8), (2, .ref o9), (3, .ref out), (4, .int 0)] [] σ 83 64929 := by
  refine bL_state (N := fun _ => True) hi ⟨Nat.le_of_ble_eq_true rfl, Nat.le_of_ble_eq_true rfl⟩ (ci_sh F.1 F.2.2.1 rfl) ?_ (fun σ' _ => ?_)
  · exact st_state F _ _
  · exact hL_next (lw_exit hL (by decide) ⟨Nat.le_of_ble_eq_true rfl, Nat.le_of_ble_eq_true rfl⟩)
set_option maxHeartbeats 4000000 in
set_option maxRecDepth 100000 in
theorem e1_channel {G : mm_G} {A : Nat → Prop} {b L o8 o9 out : Nat} {xs : Nat → Int32} {T : Nat → Option Nat} {σ : mm_M} (hL : L ≤ 6) (F : lx_Fr T o8 o9 out σ) (hi : 0 ≤ (0 : Int32).toInt ∧ (0 : Int32).toInt + 6 ≤ L ∧ L ≤ 4000) : JL G A b L xs 384 [(0, .ref b), (1, .ref o8), (2, .ref o9), (3, .ref out), (4, .int 0)] [] σ 83 64929 := by
  refine bL_channel (N := fun _ => True) hi ⟨Nat.le_of_ble_eq_true rfl, Nat.le_of_ble_eq_true rfl⟩ (ci_sh F.1 F.2.2.1 rfl) ?_ (fun σ' _ => ?_)
  · exact st_channel F _
  · exact hL_next (lw_exit hL (by decide) ⟨Nat.le_of_ble_eq_true rfl, Nat.le_of_ble_eq_true rfl⟩)
set_option maxHeartbeats 4000000 in
set_option maxRecDepth 100000 in
theorem e1_guarded {G : mm_G} {A : Nat → Prop} {b L o8 o9 out : Nat} {xs : Nat → Int32} {T : Nat → Option Nat} {σ : mm_M} (hL : L ≤ 6) (F : lx_Fr T o8 o9 out σ) (hi : 0 ≤ (0 : Int32).toInt ∧ (0 : Int32).toInt + 6 ≤ L ∧ L ≤ 4000) : JL G A b L xs 440 [(0, .ref b), (1, .ref o8), (2, .ref o9), (3, .ref out), (4, .int 0)] [] σ 83 64929 := by
  refine bL_guarded (N := fun _ => True) hi ⟨Nat.le_of_ble_eq_true rfl, Nat.le_of_ble_eq_true rfl⟩ (ci_sh F.1 F.2.2.1 rfl) ?_ (fun σ' _ => ?_)
  · exact st_guarded F _
  · exact hL_next (lw_exit hL (by decide) ⟨Nat.le_of_ble_eq_true rfl, Nat.le_of_ble_eq_true rfl⟩)
set_option maxHeartbeats 4000000 in
set_option maxRecDepth 100000 in
theorem e1_feed {G : mm_G} {A : Nat → Prop} {b L o8 o9 out : Nat} {xs : Nat → Int32} {T : Nat → Option Nat} {σ : mm_M} (hL : L ≤ 6) (F : lx_Fr T o8 o9 out σ) (hi : 0 ≤ (0 : Int32).toInt ∧ (0 : Int32).toInt + 6 ≤ L ∧ L ≤ 4000) : JL G A b L xs 465 [(0, .ref b), (1, .ref o8), (2, .ref o9), (3, .ref out), (4, .int 0)] [] σ 83 64929 := by
  refine bL_feed (N := fun _ => True) hi ⟨Nat.le_of_ble_eq_true rfl, Nat.le_of_ble_eq_true rfl⟩ (ci_sh F.1 F.2.2.1 rfl) ?_ (fun σ' _ => ?_)
  · exact st_feed F _ _ _ _ _
  · exact hL_next (lw_exit hL (by decide) ⟨Nat.le_of_ble_eq_true rfl, Nat.le_of_ble_eq_true rfl⟩)
set_option maxHeartbeats 4000000 in
set_option maxRecDepth 100000 in
theorem e1_packet {G : mm_G} {A : Nat → Prop} {b L o8 o9 out : Nat} {xs : Nat → Int32} {T : Nat → Option Nat} {σ : mm_M} (hL : L ≤ 6) (F : lx_Fr T o8 o9 out σ) (hi : 0 ≤ (0 : Int32).toInt ∧ (0 : Int32).toInt + 6 ≤ L ∧ L ≤ 4000) : JL G A b L xs 569 [(0, .ref b), (1, .ref o8), (2, .ref o9), (3, .ref out), (4, .int 0)] [] σ 83 64929 := by
  refine bL_packet (N := fun _ => True) hi ⟨Nat.le_of_ble_eq_true rfl, Nat.le_of_ble_eq_true rfl⟩ (ci_sh F.1 F.2.2.1 rfl) ?_ (fun σ' _ => ?_)
  · exact st_packet F
  · exact hL_next (lw_exit hL (by decide) ⟨Nat.le_of_ble_eq_true rfl, Nat.le_of_ble_eq_true rfl⟩)
set_option maxHeartbeats 4000000 in
set_option maxRecDepth 100000 in
theorem e1_nothing {G : mm_G} {A : Nat → Prop} {b L o8 o9 out : Nat} {xs : Nat → Int32} {T : Nat → Option Nat} {σ : mm_M} (hL : L ≤ 6) (F : lx_Fr T o8 o9 out σ) (hi : 0 ≤ (0 : Int32).toInt ∧ (0 : Int32).toInt + 6 ≤ L ∧ L ≤ 4000) : JL G A b L xs 613 [(0, .ref b), (1, .ref o8), (2, .ref o9), (3, .ref out), (4, .int 0)] [] σ 83 64929 := by
  refine bL_nothing (N := fun _ => True) hi ⟨Nat.le_of_ble_eq_true rfl, Nat.le_of_ble_eq_true rfl⟩ (ci_sh F.1 F.2.2.1 rfl) ?_ (fun σ' _ => ?_)
  · exact st_nothing F _
  · exact hL_next (lw_exit hL (by decide) ⟨Nat.le_of_ble_eq_true rfl, Nat.le_of_ble_eq_true rfl⟩)
set_option maxHeartbeats 4000000 in
set_option maxRecDepth 100000 in
theorem e1_pages {G : mm_G} {A : Nat → Prop} {b L o8 o9 out : Nat} {xs : Nat → Int32} {T : Nat → Option Nat} {σ : mm_M} (hL : L ≤ 6) (F : lx_Fr T o8 o9 out σ) (hi : 0 ≤ (0 : Int32).toInt ∧ (0 : Int32).toInt + 6 ≤ L ∧ L ≤ 4000) : JL G A b L xs 669 [(0, .ref b), (1, .ref o8), (2, .ref o9), (3, .ref out), (4, .int 0)] [] σ 83 64929 := by
  refine bL_pages (N := fun _ => True) hi ⟨Nat.le_of_ble_eq_true rfl, Nat.le_of_ble_eq_true rfl⟩ (ci_sh F.1 F.2.2.1 rfl) ?_ (fun σ' _ => ?_)
  · exact st_pages F
  · exact hL_next (lw_exit hL (by decide) ⟨Nat.le_of_ble_eq_true rfl, Nat.le_of_ble_eq_true rfl⟩)
set_option maxHeartbeats 4000000 in
set_option maxRecDepth 100000 in
theorem e1_find {G : mm_G} {A : Nat → Prop} {b L o8 o9 out : Nat} {xs : Nat → Int32} {T : Nat → Option Nat} {σ : mm_M} (hL : L ≤ 6) (F : lx_Fr T o8 o9 out σ) (hi : 0 ≤ (0 : Int32).toInt ∧ (0 : Int32).toInt + 6 ≤ L ∧ L ≤ 4000) : JL G A b L xs 682 [(0, .ref b), (1, .ref o8), (2, .ref o9), (3, .ref out), (4, .int 0)] [] σ 83 64929 := by
  refine bL_find (N := fun _ => True) hi ⟨Nat.le_of_ble_eq_true rfl, Nat.le_of_ble_eq_true rfl⟩ (ci_sh F.1 F.2.2.1 rfl) ?_ (fun σ' _ => ?_)
  · exact st_find F _ _ _
  · exact hL_next (lw_exit hL (by decide) ⟨Nat.le_of_ble_eq_true rfl, Nat.le_of_ble_eq_true rfl⟩)
set_option maxHeartbeats 4000000 in
set_option maxRecDepth 100000 in
theorem e1_page {G : mm_G} {A : Nat → Prop} {b L o8 o9 out : Nat} {xs : Nat → Int32} {T : Nat → Option Nat} {σ : mm_M} (hL : L ≤ 6) (F : lx_Fr T o8 o9 out σ) (hi : 0 ≤ (0 : Int32).toInt ∧ (0 : Int32).toInt + 6 ≤ L ∧ L ≤ 4000) : JL G A b L xs 731 [(0, .ref b), (1, .ref o8), (2, .ref o9), (3, .ref out), (4, .int 0)] [] σ 83 64929 := by
  refine bL_page (N := fun _ => True) hi ⟨Nat.le_of_ble_eq_true rfl, Nat.le_of_ble_eq_true rfl⟩ (ci_sh F.1 F.2.2.1 rfl) ?_ (fun σ' _ => ?_)
  · exact st_page F _ _
  · exact hL_next (lw_exit hL (by decide) ⟨Nat.le_of_ble_eq_true rfl, Nat.le_of_ble_eq_true rfl⟩)
set_option maxHeartbeats 4000000 in
set_option maxRecDepth 100000 in
theorem e1_sign {G : mm_G} {A : Nat → Prop} {b L o8 o9 out : Nat} {xs : Nat → Int32} {T : Nat → Option Nat} {σ : mm_M} (hL : L ≤ 6) (F : lx_Fr T o8 o9 out σ) (hi : 0 ≤ (0 : Int32).toInt ∧ (0 : Int32).toInt + 6 ≤ L ∧ L ≤ 4000) : JL G A b L xs 799 [(0, .ref b), (1, .ref o8), (2, .ref o9), (3, .ref out), (4, .int 0)] [] σ 83 64929 := by
  refine bL_sign (N := fun _ => True) hi ⟨Nat.le_of_ble_eq_true rfl, Nat.le_of_ble_eq_true rfl⟩ (ci_sh F.1 F.2.2.1 rfl) ?_ (fun σ' _ => ?_)
  · exact st_sign F _ _ _
  · exact hL_next (lw_exit hL (by decide) ⟨Nat.le_of_ble_eq_true rfl, Nat.le_of_ble_eq_true rfl⟩)
set_option maxHeartbeats 4000000 in
set_option maxRecDepth 100000 in
theorem e1_link {G : mm_G} {A : Nat → Prop} {b L o8 o9 out : Nat} {xs : Nat → Int32} {T : Nat → Option Nat} {σ : mm_M} (hL : L ≤ 6) (F : lx_Fr T o8 o9 out σ) (hi : 0 ≤ (0 : Int32).toInt ∧ (0 : Int32).toInt + 6 ≤ L ∧ L ≤ 4000) : JL G A b L xs 879 [(0, .ref b), (1, .ref o8), (2, .ref o9), (3, .ref out), (4, .int 0)] [] σ 83 64929 := by
  refine bL_link (N := fun _ => True) hi ⟨Nat.le_of_ble_eq_true rfl, Nat.le_of_ble_eq_true rfl⟩ (ci_sh F.1 F.2.2.1 rfl) ?_ (fun σ' _ => ?_)
  · exact st_link F _ _ _
  · exact hL_next (lw_exit hL (by decide) ⟨Nat.le_of_ble_eq_true rfl, Nat.le_of_ble_eq_true rfl⟩)
set_option maxHeartbeats 4000000 in
set_option maxRecDepth 100000 in
theorem e1_open {G : mm_G} {A : Nat → Prop} {b L o8 o9 out : Nat} {xs : Nat → Int32} {T : Nat → Option Nat} {σ : mm_M} (hL : L ≤ 6) (F : lx_Fr T o8 o9 out σ) (hi : 0 ≤ (0 : Int32).toInt ∧ (0 : Int32).toInt + 6 ≤ L ∧ L ≤ 4000) : JL G A b L xs 959 [(0, .ref b), (1, .ref o8), (2, .ref o9), (3, .ref out), (4, .int 0)] [] σ 83 64929 := by
  refine bL_open (N := fun _ => True) hi ⟨Nat.le_of_ble_eq_true rfl, Nat.le_of_ble_eq_true rfl⟩ (ci_sh F.1 F.2.2.1 rfl) ?_ (fun σ' _ => ?_)
  · exact st_open F _
  · exact hL_next (lw_exit hL (by decide) ⟨Nat.le_of_ble_eq_true rfl, Nat.le_of_ble_eq_true rfl⟩)
set_option maxHeartbeats 4000000 in
set_option maxRecDepth 100000 in
theorem e1_watch {G : mm_G} {A : Nat → Prop} {b L o8 o9 out : Nat} {xs : Nat → Int32} {T : Nat → Option Nat} {σ : mm_M} (hL : L ≤ 6) (F : lx_Fr T o8 o9 out σ) (hi : 0 ≤ (0 : Int32).toInt ∧ (0 : Int32).toInt + 6 ≤ L ∧ L ≤ 4000) : JL G A b L xs 1015 [(0, .ref b), (1, .ref o8), (2, .ref o9), (3, .ref out), (4, .int 0)] [] σ 83 64929 := by
  refine bL_watch (N := fun _ => True) hi ⟨Nat.le_of_ble_eq_true rfl, Nat.le_of_ble_eq_true rfl⟩ (ci_sh F.1 F.2.2.1 rfl) ?_ (fun σ' _ => ?_)
  · exact st_watch F _ _
  · exact hL_next (lw_exit hL (by decide) ⟨Nat.le_of_ble_eq_true rfl, Nat.le_of_ble_eq_true rfl⟩)
set_option maxHeartbeats 4000000 in
set_option maxRecDepth 100000 in
theorem e1_tick {G : mm_G} {A : Nat → Prop} {b L o8 o9 out : Nat} {xs : Nat → Int32} {T : Nat → Option Nat} {σ : mm_M} (hL : L ≤ 6) (F : lx_Fr T o8 o9 out σ) (hi : 0 ≤ (0 : Int32).toInt ∧ (0 : Int32).toInt + 6 ≤ L ∧ L ≤ 4000) : JL G A b L xs 1083 [(0, .ref b), (1, .ref o8), (2, .ref o9), (3, .ref out), (4, .int 0)] [] σ 83 64929 := by
  refine bL_tick (N := fun _ => True) hi ⟨Nat.le_of_ble_eq_true rfl, Nat.le_of_ble_eq_true rfl⟩ (ci_sh F.1 F.2.2.1 rfl) ?_ (fun σ' _ => ?_)
  · exact st_tick F _
  · exact hL_next (lw_exit hL (by decide) ⟨Nat.le_of_ble_eq_true rfl, Nat.le_of_ble_eq_true rfl⟩)
set_option maxHeartbeats 4000000 in
set_option maxRecDepth 100000 in
theorem e1_cues {G : mm_G} {A : Nat → Prop} {b L o8 o9 out : Nat} {xs : Nat → Int32} {T : Nat → Option Nat} {σ : mm_M} (hL : L ≤ 6) (F : lx_Fr T o8 o9 out σ) (hi : 0 ≤ (0 : Int32).toInt ∧ (0 : Int32).toInt + 6 ≤ L ∧ L ≤ 4000) : JL G A b L xs 1139 [(0, .ref b), (1, .ref o8), (2, .ref o9), (3, .ref out), (4, .int 0)] [] σ 83 64929 := by
  refine bL_cues (N := fun _ => True) hi ⟨Nat.le_of_ble_eq_true rfl, Nat.le_of_ble_eq_true rfl⟩ (ci_sh F.1 F.2.2.1 rfl) ?_ (fun σ' _ => ?_)
  · exact st_cues F
  · exact hL_next (lw_exit hL (by decide) ⟨Nat.le_of_ble_eq_true rfl, Nat.le_of_ble_eq_true rfl⟩)
set_option maxHeartbeats 4000000 in
set_option maxRecDepth 100000 in
theorem e1_cue {G : mm_G} {A : Nat → Prop} {b L o8 o9 out : Nat} {xs : Nat → Int32} {T : Nat → Option Nat} {σ : mm_M} (hL : L ≤ 6) (F : lx_Fr T o8 o9 out σ) (hi : 0 ≤ (0 : Int32).toInt ∧ (0 : Int32).toInt + 6 ≤ L ∧ L ≤ 4000) : JL G A b L xs 1152 [(0, .ref b), (1, .ref o8), (2, .ref o9), (3, .ref out), (4, .int 0)] [] σ 83 64929 := by
  refine bL_cue (N := fun _ => True) hi ⟨Nat.le_of_ble_eq_true rfl, Nat.le_of_ble_eq_true rfl⟩ (ci_sh F.1 F.2.2.1 rfl) ?_ (fun σ' _ => ?_)
  · exact st_cue F _ _
  · exact hL_next (lw_exit hL (by decide) ⟨Nat.le_of_ble_eq_true rfl, Nat.le_of_ble_eq_true rfl⟩)
set_option maxHeartbeats 4000000 in
set_option maxRecDepth 100000 in
theorem e1_line {G : mm_G} {A : Nat → Prop} {b L o8 o9 out : Nat} {xs : Nat → Int32} {T : Nat → Option Nat} {σ : mm_M} (hL : L ≤ 6) (F : lx_Fr T o8 o9 out σ) (hi : 0 ≤ (0 : Int32).toInt ∧ (0 : Int32).toInt + 6 ≤ L ∧ L ≤ 4000) : JL G A b L xs 1220 [(0, .ref b), (1, .ref o8), (2, .ref o9), (3, .ref out), (4, .int 0)] [] σ 83 64929 := by
  refine bL_line (N := fun _ => True) hi ⟨Nat.le_of_ble_eq_true rfl, Nat.le_of_ble_eq_true rfl⟩ (ci_sh F.1 F.2.2.1 rfl) ?_ (fun σ' _ => ?_)
  · exact st_line F _ _
  · exact hL_next (lw_exit hL (by decide) ⟨Nat.le_of_ble_eq_true rfl, Nat.le_of_ble_eq_true rfl⟩)
set_option maxHeartbeats 4000000 in
set_option maxRecDepth 100000 in
theorem lw_all {G : mm_G} {A : Nat → Prop} {b L : Nat} {xs : Nat → Int32} {z : Nat} (hL : L ≤ 6) : JL G A b L xs 0 [(0, .ref b)] [] (lw_M0 z) 0 0 := by
  refine lw_begin (fun T o8 o9 out σ F => ?_)
  refine hL_head (by omega) (by decide) ⟨Nat.le_of_ble_eq_true rfl, Nat.le_of_ble_eq_true rfl⟩ ?_ ?_ ?_ ?_ ?_ ?_ ?_ ?_ ?_ ?_ ?_ ?_ ?_ ?_ ?_ ?_ ?_ ?_ ?_ ?_
  · exact fun hi _ => e1_pair hL F hi
  · exact fun hi _ => e1_cell hL F hi
  · exact fun hi _ => e1_state hL F hi
  · exact fun hi _ => e1_channel hL F hi
  · exact fun hi _ => e1_guarded hL F hi
  · exact fun hi _ => e1_feed hL F hi
  · exact fun hi _ => e1_packet hL F hi
  · exact fun hi _ => e1_nothing hL F hi
  · exact fun hi _ => e1_pages hL F hi
  · exact fun hi _ => e1_find hL F hi
  · exact fun hi _ => e1_page hL F hi
  · exact fun hi _ => e1_sign hL F hi
  · exact fun hi _ => e1_link hL F hi
  · exact fun hi _ => e1_open hL F hi
  · exact fun hi _ => e1_watch hL F hi
  · exact fun hi _ => e1_tick hL F hi
  · exact fun hi _ => e1_cues hL F hi
  · exact fun hi _ => e1_cue hL F hi
  · exact fun hi _ => e1_line hL F hi
  · exact fun _ => hL_next (lw_exit hL (by decide) ⟨Nat.le_of_ble_eq_true rfl, Nat.le_of_ble_eq_true rfl⟩)
