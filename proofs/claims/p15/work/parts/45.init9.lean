set_option maxHeartbeats 4000000 in
set_option maxRecDepth 10000 in
theorem nX9 {F : Prop} {T : Nat → Option Nat} {σ : mm_M} (G : sGood F T σ) : sw (fX9_init σ.1 (mm_new σ (.inl 9))) (fun R => ∃ T', sEV T σ T' R ∧ sGood F T' R ∧ T' σ.1 = some 9) := by
  have P0 := po_new G.1 (.inl 9)
  have G0 := gd_new G (.inl 9)
  have E0 := ev_new (T := T) (σ := σ) (.inl 9)
  generalize es0 : mm_new σ (.inl 9) = s0 at P0 G0 E0 ⊢
  have b0 : σ.1 ≤ σ.1 := Nat.le_refl _
  unfold fX9_init
  refine sw_let (fun s1 es1 => ?_)
  obtain ⟨T2, G3, F4, t5⟩ : ∃ T', sGood F T' (mm_new s0 (.inr (0, 3840))) ∧ sEV T s0 T' (mm_new s0 (.inr (0, 3840))) ∧ T' s0.1 = some 51 := ⟨_, gd_arr (κ := 51) G0 ⟨fun sh e => by cases e; rfl, fun e => by cases e⟩ (fun k => rfl) (fun j => kr_n rfl) (fun j => by first | exact rfl | exact trivial)⟩
  rw [es1] at G3 F4
  have P6 := po_ev P0 F4
  have E7 := ev_trans E0 F4
  refine sw_sh P6.2.1 ?_
  refine sw_let (fun s8 es8 => ?_)
  have P9 := po_setR (k := 1) P6 (by simp) (s0.1)
  have G10 := gd_wR0 (k := 1) (v := some (s0.1)) G3 P6.1
  have E11 := ev_wR (k := 1) (v := some (s0.1)) E7 b0
  have ds8 : mm_wR s1 (σ.1) 1 (some (s0.1)) = s8 := es8
  rw [ds8] at P9 G10 E11
  refine sw_let (fun s12 es12 => ?_)
  obtain ⟨T13, G14, F15, t16⟩ : ∃ T', sGood F T' (mm_new s8 (.inr (0, 3840))) ∧ sEV T2 s8 T' (mm_new s8 (.inr (0, 3840))) ∧ T' s8.1 = some 52 := ⟨_, gd_arr (κ := 52) G10 ⟨fun sh e => by cases e; rfl, fun e => by cases e⟩ (fun k => rfl) (fun j => kr_n rfl) (fun j => by first | exact rfl | exact trivial)⟩
  rw [es12] at G14 F15
  have P17 := po_ev P9 F15
  have t18 := F15.1 _ _ t5
  have E19 := ev_trans E11 F15
  refine sw_sh P17.2.1 ?_
  refine sw_let (fun s20 es20 => ?_)
  have P21 := po_setR (k := 2) P17 (by simp) (s8.1)
  have G22 := gd_wR0 (k := 2) (v := some (s8.1)) G14 P17.1
  have E23 := ev_wR (k := 2) (v := some (s8.1)) E19 b0
  have ds20 : mm_wR s12 (σ.1) 2 (some (s8.1)) = s20 := es20
  rw [ds20] at P21 G22 E23
  refine sw_let (fun s24 es24 => ?_)
  obtain ⟨T25, G26, F27, t28⟩ : ∃ T', sGood F T' (mm_new s20 (.inr (0, 4))) ∧ sEV T13 s20 T' (mm_new s20 (.inr (0, 4))) ∧ T' s20.1 = some 53 := ⟨_, gd_arr (κ := 53) G22 ⟨fun sh e => by cases e; rfl, fun e => by cases e⟩ (fun k => rfl) (fun j => kr_s (lo := 0) (hi := 1) rfl (by decide)) (fun j => by first | exact rfl | exact trivial)⟩
  rw [es24] at G26 F27
  have P29 := po_ev P21 F27
  have t30 := F27.1 _ _ t18
  have t31 := F27.1 _ _ t16
  have E32 := ev_trans E23 F27
  refine sw_sh P29.2.1 ?_
  refine sw_let (fun s33 es33 => ?_)
  have P34 := po_setR (k := 3) P29 (by simp) (s20.1)
  have G35 := gd_wR0 (k := 3) (v := some (s20.1)) G26 P29.1
  have E36 := ev_wR (k := 3) (v := some (s20.1)) E32 b0
  have ds33 : mm_wR s24 (σ.1) 3 (some (s20.1)) = s33 := es33
  rw [ds33] at P34 G35 E36
  refine sw_let (fun s37 es37 => ?_)
  obtain ⟨T38, G39, F40, t41⟩ : ∃ T', sGood F T' (mm_new s33 (.inr (0, 4))) ∧ sEV T25 s33 T' (mm_new s33 (.inr (0, 4))) ∧ T' s33.1 = some 54 := ⟨_, gd_arr (κ := 54) G35 ⟨fun sh e => by cases e; rfl, fun e => by cases e⟩ (fun k => rfl) (fun j => kr_n rfl) (fun j => by first | exact rfl | exact trivial)⟩
  rw [es37] at G39 F40
  have P42 := po_ev P34 F40
  have t43 := F40.1 _ _ t30
  have t44 := F40.1 _ _ t31
  have t45 := F40.1 _ _ t28
  have E46 := ev_trans E36 F40
  refine sw_sh P42.2.1 ?_
  refine sw_let (fun s47 es47 => ?_)
  have P48 := po_setR (k := 4) P42 (by simp) (s33.1)
  have G49 := gd_wR0 (k := 4) (v := some (s33.1)) G39 P42.1
  have E50 := ev_wR (k := 4) (v := some (s33.1)) E46 b0
  have ds47 : mm_wR s37 (σ.1) 4 (some (s33.1)) = s47 := es47
  rw [ds47] at P48 G49 E50
  have n55 : σ.1 ≠ s47.1 := Nat.ne_of_lt P48.2.2.1
  have b56 := E50.2.1
  refine sw_let (fun s51 es51 => ?_)
  have P52 := po_new G49.1 (.inr (0, 4))
  have G53 := gd_new G49 (.inr (0, 4))
  have F54 := ev_new (T := T38) (σ := s47) (.inr (0, 4))
  rw [es51] at P52 G53 F54
  have P57 := po_ev P48 F54
  have t58 := F54.1 _ _ t43
  have t59 := F54.1 _ _ t44
  have t60 := F54.1 _ _ t45
  have t61 := F54.1 _ _ t41
  have E62 := ev_trans E50 F54
  refine sw_sh P57.2.1 ?_
  refine sw_let (fun s63 es63 => ?_)
  have P64 := po_setR (k := 5) P57 (by simp) (s47.1)
  have G65 := gd_wR0 (k := 5) (v := some (s47.1)) G53 P57.1
  have E66 := ev_wR (k := 5) (v := some (s47.1)) E62 b0
  have P67 := po_othR (k := 5) (v := some (s47.1)) P52 (Ne.symm n55)
  have ds63 : mm_wR s51 (σ.1) 5 (some (s47.1)) = s63 := es63
  rw [ds63] at P64 G65 E66 P67
  refine sw_let (fun s68 es68 => ?_)
  obtain ⟨T69, G70, F71, t72⟩ : ∃ T', sGood F T' (mm_new s63 (.inr (0, 4))) ∧ sEV T38 s63 T' (mm_new s63 (.inr (0, 4))) ∧ T' s63.1 = some 56 := ⟨_, gd_arr (κ := 56) G65 ⟨fun sh e => by cases e; rfl, fun e => by cases e⟩ (fun k => rfl) (fun j => kr_s (lo := 0) (hi := 32) rfl (by decide)) (fun j => by first | exact rfl | exact trivial)⟩
  rw [es68] at G70 F71
  have P73 := po_ev P64 F71
  have P74 := po_ev P67 F71
  have t75 := F71.1 _ _ t58
  have t76 := F71.1 _ _ t59
  have t77 := F71.1 _ _ t60
  have t78 := F71.1 _ _ t61
  have E79 := ev_trans E66 F71
  refine sw_sh P73.2.1 ?_
  refine sw_let (fun s80 es80 => ?_)
  have P81 := po_setR (k := 6) P73 (by simp) (s63.1)
  have G82 := gd_wR0 (k := 6) (v := some (s63.1)) G70 P73.1
  have E83 := ev_wR (k := 6) (v := some (s63.1)) E79 b0
  have P84 := po_othR (k := 6) (v := some (s63.1)) P74 (Ne.symm n55)
  have ds80 : mm_wR s68 (σ.1) 6 (some (s63.1)) = s80 := es80
  rw [ds80] at P81 G82 E83 P84
  refine sw_let (fun s85 es85 => ?_)
  obtain ⟨T86, G87, F88, t89⟩ : ∃ T', sGood F T' (mm_new s80 (.inr (0, 4))) ∧ sEV T69 s80 T' (mm_new s80 (.inr (0, 4))) ∧ T' s80.1 = some 57 := ⟨_, gd_arr (κ := 57) G82 ⟨fun sh e => by cases e; rfl, fun e => by cases e⟩ (fun k => rfl) (fun j => kr_n rfl) (fun j => by first | exact rfl | exact trivial)⟩
  rw [es85] at G87 F88
  have P90 := po_ev P81 F88
  have P91 := po_ev P84 F88
  have t92 := F88.1 _ _ t75
  have t93 := F88.1 _ _ t76
  have t94 := F88.1 _ _ t77
  have t95 := F88.1 _ _ t78
  have t96 := F88.1 _ _ t72
  have E97 := ev_trans E83 F88
  refine sw_sh P90.2.1 ?_
  refine sw_let (fun s98 es98 => ?_)
  have P99 := po_setR (k := 7) P90 (by simp) (s80.1)
  have G100 := gd_wR0 (k := 7) (v := some (s80.1)) G87 P90.1
  have E101 := ev_wR (k := 7) (v := some (s80.1)) E97 b0
  have P102 := po_othR (k := 7) (v := some (s80.1)) P91 (Ne.symm n55)
  have ds98 : mm_wR s85 (σ.1) 7 (some (s80.1)) = s98 := es98
  rw [ds98] at P99 G100 E101 P102
  have n107 : σ.1 ≠ s98.1 := Nat.ne_of_lt P99.2.2.1
  have n108 : s47.1 ≠ s98.1 := Nat.ne_of_lt P102.2.2.1
  have b109 := E101.2.1
  refine sw_let (fun s103 es103 => ?_)
  have P104 := po_new G100.1 (.inr (0, 4))
  have G105 := gd_new G100 (.inr (0, 4))
  have F106 := ev_new (T := T86) (σ := s98) (.inr (0, 4))
  rw [es103] at P104 G105 F106
  have P110 := po_ev P99 F106
  have P111 := po_ev P102 F106
  have t112 := F106.1 _ _ t92
  have t113 := F106.1 _ _ t93
  have t114 := F106.1 _ _ t94
  have t115 := F106.1 _ _ t95
  have t116 := F106.1 _ _ t96
  have t117 := F106.1 _ _ t89
  have E118 := ev_trans E101 F106
  refine sw_sh P110.2.1 ?_
  refine sw_let (fun s119 es119 => ?_)
  have P120 := po_setR (k := 8) P110 (by simp) (s98.1)
  have G121 := gd_wR0 (k := 8) (v := some (s98.1)) G105 P110.1
  have E122 := ev_wR (k := 8) (v := some (s98.1)) E118 b0
  have P123 := po_othR (k := 8) (v := some (s98.1)) P111 (Ne.symm n55)
  have P124 := po_othR (k := 8) (v := some (s98.1)) P104 (Ne.symm n107)
  have ds119 : mm_wR s103 (σ.1) 8 (some (s98.1)) = s119 := es119
  rw [ds119] at P120 G121 E122 P123 P124
  have n129 : σ.1 ≠ s119.1 := Nat.ne_of_lt P120.2.2.1
  have n130 : s47.1 ≠ s119.1 := Nat.ne_of_lt P123.2.2.1
  have n131 : s98.1 ≠ s119.1 := Nat.ne_of_lt P124.2.2.1
  have b132 := E122.2.1
  refine sw_let (fun s125 es125 => ?_)
  have P126 := po_new G121.1 (.inr (0, 2))
  have G127 := gd_new G121 (.inr (0, 2))
  have F128 := ev_new (T := T86) (σ := s119) (.inr (0, 2))
  rw [es125] at P126 G127 F128
  have P133 := po_ev P120 F128
  have P134 := po_ev P123 F128
  have P135 := po_ev P124 F128
  have t136 := F128.1 _ _ t112
  have t137 := F128.1 _ _ t113
  have t138 := F128.1 _ _ t114
  have t139 := F128.1 _ _ t115
  have t140 := F128.1 _ _ t116
  have t141 := F128.1 _ _ t117
  have E142 := ev_trans E122 F128
  refine sw_sh P133.2.1 ?_
  refine sw_let (fun s143 es143 => ?_)
  have P144 := po_setR (k := 9) P133 (by simp) (s119.1)
  have G145 := gd_wR0 (k := 9) (v := some (s119.1)) G127 P133.1
  have E146 := ev_wR (k := 9) (v := some (s119.1)) E142 b0
  have P147 := po_othR (k := 9) (v := some (s119.1)) P134 (Ne.symm n55)
  have P148 := po_othR (k := 9) (v := some (s119.1)) P135 (Ne.symm n107)
  have P149 := po_othR (k := 9) (v := some (s119.1)) P126 (Ne.symm n129)
  have ds143 : mm_wR s125 (σ.1) 9 (some (s119.1)) = s143 := es143
  rw [ds143] at P144 G145 E146 P147 P148 P149
  have n154 : σ.1 ≠ s143.1 := Nat.ne_of_lt P144.2.2.1
  have n155 : s47.1 ≠ s143.1 := Nat.ne_of_lt P147.2.2.1
  have n156 : s98.1 ≠ s143.1 := Nat.ne_of_lt P148.2.2.1
  have n157 : s119.1 ≠ s143.1 := Nat.ne_of_lt P149.2.2.1
  have b158 := E146.2.1
  refine sw_let (fun s150 es150 => ?_)
  have P151 := po_new G145.1 (.inr (0, 2))
  have G152 := gd_new G145 (.inr (0, 2))
  have F153 := ev_new (T := T86) (σ := s143) (.inr (0, 2))
  rw [es150] at P151 G152 F153
  have P159 := po_ev P144 F153
  have P160 := po_ev P147 F153
  have P161 := po_ev P148 F153
  have P162 := po_ev P149 F153
  have t163 := F153.1 _ _ t136
  have t164 := F153.1 _ _ t137
  have t165 := F153.1 _ _ t138
  have t166 := F153.1 _ _ t139
  have t167 := F153.1 _ _ t140
  have t168 := F153.1 _ _ t141
  have E169 := ev_trans E146 F153
  refine sw_sh P159.2.1 ?_
  refine sw_let (fun s170 es170 => ?_)
  have P171 := po_setR (k := 10) P159 (by simp) (s143.1)
  have G172 := gd_wR0 (k := 10) (v := some (s143.1)) G152 P159.1
  have E173 := ev_wR (k := 10) (v := some (s143.1)) E169 b0
  have P174 := po_othR (k := 10) (v := some (s143.1)) P160 (Ne.symm n55)
  have P175 := po_othR (k := 10) (v := some (s143.1)) P161 (Ne.symm n107)
  have P176 := po_othR (k := 10) (v := some (s143.1)) P162 (Ne.symm n129)
  have P177 := po_othR (k := 10) (v := some (s143.1)) P151 (Ne.symm n154)
  have ds170 : mm_wR s150 (σ.1) 10 (some (s143.1)) = s170 := es170
  rw [ds170] at P171 G172 E173 P174 P175 P176 P177
  refine sw_let (fun s178 es178 => ?_)
  obtain ⟨T179, G180, F181, t182⟩ : ∃ T', sGood F T' (mm_new s170 (.inr (2, 60))) ∧ sEV T86 s170 T' (mm_new s170 (.inr (2, 60))) ∧ T' s170.1 = some 61 := ⟨_, gd_arr (κ := 61) G172 ⟨fun sh e => by cases e; rfl, fun e => by cases e⟩ (fun k => rfl) (fun j => kr_n rfl) (fun j => by first | exact rfl | exact trivial)⟩
  rw [es178] at G180 F181
  have P183 := po_ev P171 F181
  have P184 := po_ev P174 F181
  have P185 := po_ev P175 F181
  have P186 := po_ev P176 F181
  have P187 := po_ev P177 F181
  have t188 := F181.1 _ _ t163
  have t189 := F181.1 _ _ t164
  have t190 := F181.1 _ _ t165
  have t191 := F181.1 _ _ t166
  have t192 := F181.1 _ _ t167
  have t193 := F181.1 _ _ t168
  have E194 := ev_trans E173 F181
  refine sw_sh P183.2.1 ?_
  refine sw_let (fun s195 es195 => ?_)
  have P196 := po_setR (k := 11) P183 (by simp) (s170.1)
  have G197 := gd_wR0 (k := 11) (v := some (s170.1)) G180 P183.1
  have E198 := ev_wR (k := 11) (v := some (s170.1)) E194 b0
  have P199 := po_othR (k := 11) (v := some (s170.1)) P184 (Ne.symm n55)
  have P200 := po_othR (k := 11) (v := some (s170.1)) P185 (Ne.symm n107)
  have P201 := po_othR (k := 11) (v := some (s170.1)) P186 (Ne.symm n129)
  have P202 := po_othR (k := 11) (v := some (s170.1)) P187 (Ne.symm n154)
  have ds195 : mm_wR s178 (σ.1) 11 (some (s170.1)) = s195 := es195
  rw [ds195] at P196 G197 E198 P199 P200 P201 P202
  refine sw_let (fun s203 es203 => ?_)
  obtain ⟨T204, G205, F206, t207⟩ : ∃ T', sGood F T' (mm_new s195 (.inr (0, 3))) ∧ sEV T179 s195 T' (mm_new s195 (.inr (0, 3))) ∧ T' s195.1 = some 63 := ⟨_, gd_arr (κ := 63) G197 ⟨fun sh e => by cases e; rfl, fun e => by cases e⟩ (fun k => rfl) (fun j => kr_n rfl) (fun j => by first | exact rfl | exact trivial)⟩
  rw [es203] at G205 F206
  have P208 := po_ev P196 F206
  have P209 := po_ev P199 F206
  have P210 := po_ev P200 F206
  have P211 := po_ev P201 F206
  have P212 := po_ev P202 F206
  have t213 := F206.1 _ _ t188
  have t214 := F206.1 _ _ t189
  have t215 := F206.1 _ _ t190
  have t216 := F206.1 _ _ t191
  have t217 := F206.1 _ _ t192
  have t218 := F206.1 _ _ t193
  have t219 := F206.1 _ _ t182
  have E220 := ev_trans E198 F206
  refine sw_sh P208.2.1 ?_
  refine sw_let (fun s221 es221 => ?_)
  have P222 := po_setR (k := 13) P208 (by simp) (s195.1)
  have G223 := gd_wR0 (k := 13) (v := some (s195.1)) G205 P208.1
  have E224 := ev_wR (k := 13) (v := some (s195.1)) E220 b0
  have P225 := po_othR (k := 13) (v := some (s195.1)) P209 (Ne.symm n55)
  have P226 := po_othR (k := 13) (v := some (s195.1)) P210 (Ne.symm n107)
  have P227 := po_othR (k := 13) (v := some (s195.1)) P211 (Ne.symm n129)
  have P228 := po_othR (k := 13) (v := some (s195.1)) P212 (Ne.symm n154)
  have ds221 : mm_wR s203 (σ.1) 13 (some (s195.1)) = s221 := es221
  rw [ds221] at P222 G223 E224 P225 P226 P227 P228
  refine sw_let (fun s229 es229 => ?_)
  obtain ⟨T230, G231, F232, t233⟩ : ∃ T', sGood F T' (mm_new s221 (.inr (0, 20))) ∧ sEV T204 s221 T' (mm_new s221 (.inr (0, 20))) ∧ T' s221.1 = some 65 := ⟨_, gd_arr (κ := 65) G223 ⟨fun sh e => by cases e; rfl, fun e => by cases e⟩ (fun k => rfl) (fun j => kr_s (lo := 0) (hi := 19) rfl (by decide)) (fun j => by first | exact rfl | exact trivial)⟩
  rw [es229] at G231 F232
  have P234 := po_ev P222 F232
  have P235 := po_ev P225 F232
  have P236 := po_ev P226 F232
  have P237 := po_ev P227 F232
  have P238 := po_ev P228 F232
  have t239 := F232.1 _ _ t213
  have t240 := F232.1 _ _ t214
  have t241 := F232.1 _ _ t215
  have t242 := F232.1 _ _ t216
  have t243 := F232.1 _ _ t217
  have t244 := F232.1 _ _ t218
  have t245 := F232.1 _ _ t219
  have t246 := F232.1 _ _ t207
  have E247 := ev_trans E224 F232
  refine sw_sh P234.2.1 ?_
  refine sw_let (fun s248 es248 => ?_)
  have P249 := po_setR (k := 15) P234 (by simp) (s221.1)
  have G250 := gd_wR0 (k := 15) (v := some (s221.1)) G231 P234.1
  have E251 := ev_wR (k := 15) (v := some (s221.1)) E247 b0
  have P252 := po_othR (k := 15) (v := some (s221.1)) P235 (Ne.symm n55)
  have P253 := po_othR (k := 15) (v := some (s221.1)) P236 (Ne.symm n107)
  have P254 := po_othR (k := 15) (v := some (s221.1)) P237 (Ne.symm n129)
  have P255 := po_othR (k := 15) (v := some (s221.1)) P238 (Ne.symm n154)
  have ds248 : mm_wR s229 (σ.1) 15 (some (s221.1)) = s248 := es248
  rw [ds248] at P249 G250 E251 P252 P253 P254 P255
  refine sw_let (fun s256 es256 => ?_)
  obtain ⟨T257, G258, F259, t260⟩ : ∃ T', sGood F T' (mm_new s248 (.inr (1, 20))) ∧ sEV T230 s248 T' (mm_new s248 (.inr (1, 20))) ∧ T' s248.1 = some 66 := ⟨_, gd_arr (κ := 66) G250 ⟨fun sh e => by cases e; rfl, fun e => by cases e⟩ (fun k => rfl) (fun j => kr_n rfl) (fun j => by first | exact rfl | exact trivial)⟩
  rw [es256] at G258 F259
  have P261 := po_ev P249 F259
  have P262 := po_ev P252 F259
  have P263 := po_ev P253 F259
  have P264 := po_ev P254 F259
  have P265 := po_ev P255 F259
  have t266 := F259.1 _ _ t239
  have t267 := F259.1 _ _ t240
  have t268 := F259.1 _ _ t241
  have t269 := F259.1 _ _ t242
  have t270 := F259.1 _ _ t243
  have t271 := F259.1 _ _ t244
  have t272 := F259.1 _ _ t245
  have t273 := F259.1 _ _ t246
  have t274 := F259.1 _ _ t233
  have E275 := ev_trans E251 F259
  refine sw_sh P261.2.1 ?_
  refine sw_let (fun s276 es276 => ?_)
  have P277 := po_setR (k := 16) P261 (by simp) (s248.1)
  have G278 := gd_wR0 (k := 16) (v := some (s248.1)) G258 P261.1
  have E279 := ev_wR (k := 16) (v := some (s248.1)) E275 b0
  have P280 := po_othR (k := 16) (v := some (s248.1)) P262 (Ne.symm n55)
  have P281 := po_othR (k := 16) (v := some (s248.1)) P263 (Ne.symm n107)
  have P282 := po_othR (k := 16) (v := some (s248.1)) P264 (Ne.symm n129)
  have P283 := po_othR (k := 16) (v := some (s248.1)) P265 (Ne.symm n154)
  have ds276 : mm_wR s256 (σ.1) 16 (some (s248.1)) = s276 := es276
  rw [ds276] at P277 G278 E279 P280 P281 P282 P283
  refine sw_let (fun s284 es284 => ?_)
  obtain ⟨T285, G286, F287, t288⟩ : ∃ T', sGood F T' (mm_new s276 (.inr (0, 20))) ∧ sEV T257 s276 T' (mm_new s276 (.inr (0, 20))) ∧ T' s276.1 = some 67 := ⟨_, gd_arr (κ := 67) G278 ⟨fun sh e => by cases e; rfl, fun e => by cases e⟩ (fun k => rfl) (fun j => kr_s (lo := 0) (hi := 8) rfl (by decide)) (fun j => by first | exact rfl | exact trivial)⟩
  rw [es284] at G286 F287
  have P289 := po_ev P277 F287
  have P290 := po_ev P280 F287
  have P291 := po_ev P281 F287
  have P292 := po_ev P282 F287
  have P293 := po_ev P283 F287
  have t294 := F287.1 _ _ t266
  have t295 := F287.1 _ _ t267
  have t296 := F287.1 _ _ t268
  have t297 := F287.1 _ _ t269
  have t298 := F287.1 _ _ t270
  have t299 := F287.1 _ _ t271
  have t300 := F287.1 _ _ t272
  have t301 := F287.1 _ _ t273
  have t302 := F287.1 _ _ t274
  have t303 := F287.1 _ _ t260
  have E304 := ev_trans E279 F287
  refine sw_sh P289.2.1 ?_
  refine sw_let (fun s305 es305 => ?_)
  have P306 := po_setR (k := 17) P289 (by simp) (s276.1)
  have G307 := gd_wR0 (k := 17) (v := some (s276.1)) G286 P289.1
  have E308 := ev_wR (k := 17) (v := some (s276.1)) E304 b0
  have P309 := po_othR (k := 17) (v := some (s276.1)) P290 (Ne.symm n55)
  have P310 := po_othR (k := 17) (v := some (s276.1)) P291 (Ne.symm n107)
  have P311 := po_othR (k := 17) (v := some (s276.1)) P292 (Ne.symm n129)
  have P312 := po_othR (k := 17) (v := some (s276.1)) P293 (Ne.symm n154)
  have ds305 : mm_wR s284 (σ.1) 17 (some (s276.1)) = s305 := es305
  rw [ds305] at P306 G307 E308 P309 P310 P311 P312
  refine sw_let (fun s313 es313 => ?_)
  obtain ⟨T314, G315, F316, t317⟩ : ∃ T', sGood F T' (mm_new s305 (.inr (0, 20))) ∧ sEV T285 s305 T' (mm_new s305 (.inr (0, 20))) ∧ T' s305.1 = some 68 := ⟨_, gd_arr (κ := 68) G307 ⟨fun sh e => by cases e; rfl, fun e => by cases e⟩ (fun k => rfl) (fun j => kr_n rfl) (fun j => by first | exact rfl | exact trivial)⟩
  rw [es313] at G315 F316
  have P318 := po_ev P306 F316
  have P319 := po_ev P309 F316
  have P320 := po_ev P310 F316
  have P321 := po_ev P311 F316
  have P322 := po_ev P312 F316
  have t323 := F316.1 _ _ t294
  have t324 := F316.1 _ _ t295
  have t325 := F316.1 _ _ t296
  have t326 := F316.1 _ _ t297
  have t327 := F316.1 _ _ t298
  have t328 := F316.1 _ _ t299
  have t329 := F316.1 _ _ t300
  have t330 := F316.1 _ _ t301
  have t331 := F316.1 _ _ t302
  have t332 := F316.1 _ _ t303
  have t333 := F316.1 _ _ t288
  have E334 := ev_trans E308 F316
  refine sw_sh P318.2.1 ?_
  refine sw_let (fun s335 es335 => ?_)
  have P336 := po_setR (k := 18) P318 (by simp) (s305.1)
  have G337 := gd_wR0 (k := 18) (v := some (s305.1)) G315 P318.1
  have E338 := ev_wR (k := 18) (v := some (s305.1)) E334 b0
  have P339 := po_othR (k := 18) (v := some (s305.1)) P319 (Ne.symm n55)
  have P340 := po_othR (k := 18) (v := some (s305.1)) P320 (Ne.symm n107)
  have P341 := po_othR (k := 18) (v := some (s305.1)) P321 (Ne.symm n129)
  have P342 := po_othR (k := 18) (v := some (s305.1)) P322 (Ne.symm n154)
  have ds335 : mm_wR s313 (σ.1) 18 (some (s305.1)) = s335 := es335
  rw [ds335] at P336 G337 E338 P339 P340 P341 P342
  refine sw_let (fun s343 es343 => ?_)
  obtain ⟨T344, G345, F346, t347⟩ : ∃ T', sGood F T' (mm_new s335 (.inr (0, 20))) ∧ sEV T314 s335 T' (mm_new s335 (.inr (0, 20))) ∧ T' s335.1 = some 69 := ⟨_, gd_arr (κ := 69) G337 ⟨fun sh e => by cases e; rfl, fun e => by cases e⟩ (fun k => rfl) (fun j => kr_n rfl) (fun j => by first | exact rfl | exact trivial)⟩
  rw [es343] at G345 F346
  have P348 := po_ev P336 F346
  have P349 := po_ev P339 F346
  have P350 := po_ev P340 F346
  have P351 := po_ev P341 F346
  have P352 := po_ev P342 F346
  have t353 := F346.1 _ _ t323
  have t354 := F346.1 _ _ t324
  have t355 := F346.1 _ _ t325
  have t356 := F346.1 _ _ t326
  have t357 := F346.1 _ _ t327
  have t358 := F346.1 _ _ t328
  have t359 := F346.1 _ _ t329
  have t360 := F346.1 _ _ t330
  have t361 := F346.1 _ _ t331
  have t362 := F346.1 _ _ t332
  have t363 := F346.1 _ _ t333
  have t364 := F346.1 _ _ t317
  have E365 := ev_trans E338 F346
  refine sw_sh P348.2.1 ?_
  refine sw_let (fun s366 es366 => ?_)
  have P367 := po_setR (k := 19) P348 (by simp) (s335.1)
  have G368 := gd_wR0 (k := 19) (v := some (s335.1)) G345 P348.1
  have E369 := ev_wR (k := 19) (v := some (s335.1)) E365 b0
  have P370 := po_othR (k := 19) (v := some (s335.1)) P349 (Ne.symm n55)
  have P371 := po_othR (k := 19) (v := some (s335.1)) P350 (Ne.symm n107)
  have P372 := po_othR (k := 19) (v := some (s335.1)) P351 (Ne.symm n129)
  have P373 := po_othR (k := 19) (v := some (s335.1)) P352 (Ne.symm n154)
  have ds366 : mm_wR s343 (σ.1) 19 (some (s335.1)) = s366 := es366
  rw [ds366] at P367 G368 E369 P370 P371 P372 P373
  refine sw_let (fun s374 es374 => ?_)
  obtain ⟨T375, G376, F377, t378⟩ : ∃ T', sGood F T' (mm_new s366 (.inr (0, 20))) ∧ sEV T344 s366 T' (mm_new s366 (.inr (0, 20))) ∧ T' s366.1 = some 70 := ⟨_, gd_arr (κ := 70) G368 ⟨fun sh e => by cases e; rfl, fun e => by cases e⟩ (fun k => rfl) (fun j => kr_n rfl) (fun j => by first | exact rfl | exact trivial)⟩
  rw [es374] at G376 F377
  have P379 := po_ev P367 F377
  have P380 := po_ev P370 F377
  have P381 := po_ev P371 F377
  have P382 := po_ev P372 F377
  have P383 := po_ev P373 F377
  have t384 := F377.1 _ _ t353
  have t385 := F377.1 _ _ t354
  have t386 := F377.1 _ _ t355
  have t387 := F377.1 _ _ t356
  have t388 := F377.1 _ _ t357
  have t389 := F377.1 _ _ t358
  have t390 := F377.1 _ _ t359
  have t391 := F377.1 _ _ t360
  have t392 := F377.1 _ _ t361
  have t393 := F377.1 _ _ t362
  have t394 := F377.1 _ _ t363
  have t395 := F377.1 _ _ t364
  have t396 := F377.1 _ _ t347
  have E397 := ev_trans E369 F377
  refine sw_sh P379.2.1 ?_
  refine sw_let (fun s398 es398 => ?_)
  have P399 := po_setR (k := 20) P379 (by simp) (s366.1)
  have G400 := gd_wR0 (k := 20) (v := some (s366.1)) G376 P379.1
  have E401 := ev_wR (k := 20) (v := some (s366.1)) E397 b0
  have P402 := po_othR (k := 20) (v := some (s366.1)) P380 (Ne.symm n55)
  have P403 := po_othR (k := 20) (v := some (s366.1)) P381 (Ne.symm n107)
  have P404 := po_othR (k := 20) (v := some (s366.1)) P382 (Ne.symm n129)
  have P405 := po_othR (k := 20) (v := some (s366.1)) P383 (Ne.symm n154)
  have ds398 : mm_wR s374 (σ.1) 20 (some (s366.1)) = s398 := es398
  rw [ds398] at P399 G400 E401 P402 P403 P404 P405
  refine sw_let (fun s406 es406 => ?_)
  obtain ⟨T407, G408, F409, t410⟩ : ∃ T', sGood F T' (mm_new s398 (.inr (0, 20))) ∧ sEV T375 s398 T' (mm_new s398 (.inr (0, 20))) ∧ T' s398.1 = some 71 := ⟨_, gd_arr (κ := 71) G400 ⟨fun sh e => by cases e; rfl, fun e => by cases e⟩ (fun k => rfl) (fun j => kr_n rfl) (fun j => by first | exact rfl | exact trivial)⟩
  rw [es406] at G408 F409
  have P411 := po_ev P399 F409
  have P412 := po_ev P402 F409
  have P413 := po_ev P403 F409
  have P414 := po_ev P404 F409
  have P415 := po_ev P405 F409
  have t416 := F409.1 _ _ t384
  have t417 := F409.1 _ _ t385
  have t418 := F409.1 _ _ t386
  have t419 := F409.1 _ _ t387
  have t420 := F409.1 _ _ t388
  have t421 := F409.1 _ _ t389
  have t422 := F409.1 _ _ t390
  have t423 := F409.1 _ _ t391
  have t424 := F409.1 _ _ t392
  have t425 := F409.1 _ _ t393
  have t426 := F409.1 _ _ t394
  have t427 := F409.1 _ _ t395
  have t428 := F409.1 _ _ t396
  have t429 := F409.1 _ _ t378
  have E430 := ev_trans E401 F409
  refine sw_sh P411.2.1 ?_
  refine sw_let (fun s431 es431 => ?_)
  have P432 := po_setR (k := 21) P411 (by simp) (s398.1)
  have G433 := gd_wR0 (k := 21) (v := some (s398.1)) G408 P411.1
  have E434 := ev_wR (k := 21) (v := some (s398.1)) E430 b0
  have P435 := po_othR (k := 21) (v := some (s398.1)) P412 (Ne.symm n55)
  have P436 := po_othR (k := 21) (v := some (s398.1)) P413 (Ne.symm n107)
  have P437 := po_othR (k := 21) (v := some (s398.1)) P414 (Ne.symm n129)
  have P438 := po_othR (k := 21) (v := some (s398.1)) P415 (Ne.symm n154)
  have ds431 : mm_wR s406 (σ.1) 21 (some (s398.1)) = s431 := es431
  rw [ds431] at P432 G433 E434 P435 P436 P437 P438
  refine sw_let (fun s439 es439 => ?_)
  obtain ⟨T440, G441, F442, t443⟩ : ∃ T', sGood F T' (mm_new s431 (.inr (0, 20))) ∧ sEV T407 s431 T' (mm_new s431 (.inr (0, 20))) ∧ T' s431.1 = some 72 := ⟨_, gd_arr (κ := 72) G433 ⟨fun sh e => by cases e; rfl, fun e => by cases e⟩ (fun k => rfl) (fun j => kr_n rfl) (fun j => by first | exact rfl | exact trivial)⟩
  rw [es439] at G441 F442
  have P444 := po_ev P432 F442
  have P445 := po_ev P435 F442
  have P446 := po_ev P436 F442
  have P447 := po_ev P437 F442
  have P448 := po_ev P438 F442
  have t449 := F442.1 _ _ t416
  have t450 := F442.1 _ _ t417
  have t451 := F442.1 _ _ t418
  have t452 := F442.1 _ _ t419
  have t453 := F442.1 _ _ t420
  have t454 := F442.1 _ _ t421
  have t455 := F442.1 _ _ t422
  have t456 := F442.1 _ _ t423
  have t457 := F442.1 _ _ t424
  have t458 := F442.1 _ _ t425
  have t459 := F442.1 _ _ t426
  have t460 := F442.1 _ _ t427
  have t461 := F442.1 _ _ t428
  have t462 := F442.1 _ _ t429
  have t463 := F442.1 _ _ t410
  have E464 := ev_trans E434 F442
  refine sw_sh P444.2.1 ?_
  refine sw_let (fun s465 es465 => ?_)
  have P466 := po_setR (k := 22) P444 (by simp) (s431.1)
  have G467 := gd_wR0 (k := 22) (v := some (s431.1)) G441 P444.1
  have E468 := ev_wR (k := 22) (v := some (s431.1)) E464 b0
  have P469 := po_othR (k := 22) (v := some (s431.1)) P445 (Ne.symm n55)
  have P470 := po_othR (k := 22) (v := some (s431.1)) P446 (Ne.symm n107)
  have P471 := po_othR (k := 22) (v := some (s431.1)) P447 (Ne.symm n129)
  have P472 := po_othR (k := 22) (v := some (s431.1)) P448 (Ne.symm n154)
  have ds465 : mm_wR s439 (σ.1) 22 (some (s431.1)) = s465 := es465
  rw [ds465] at P466 G467 E468 P469 P470 P471 P472
  refine sw_let (fun s473 es473 => ?_)
  obtain ⟨T474, G475, F476, t477⟩ : ∃ T', sGood F T' (mm_new s465 (.inr (2, 20000))) ∧ sEV T440 s465 T' (mm_new s465 (.inr (2, 20000))) ∧ T' s465.1 = some 73 := ⟨_, gd_arr (κ := 73) G467 ⟨fun sh e => by cases e; rfl, fun e => by cases e⟩ (fun k => rfl) (fun j => kr_n rfl) (fun j => by first | exact rfl | exact trivial)⟩
  rw [es473] at G475 F476
  have P478 := po_ev P466 F476
  have P479 := po_ev P469 F476
  have P480 := po_ev P470 F476
  have P481 := po_ev P471 F476
  have P482 := po_ev P472 F476
  have t483 := F476.1 _ _ t449
  have t484 := F476.1 _ _ t450
  have t485 := F476.1 _ _ t451
  have t486 := F476.1 _ _ t452
  have t487 := F476.1 _ _ t453
  have t488 := F476.1 _ _ t454
  have t489 := F476.1 _ _ t455
  have t490 := F476.1 _ _ t456
  have t491 := F476.1 _ _ t457
  have t492 := F476.1 _ _ t458
  have t493 := F476.1 _ _ t459
  have t494 := F476.1 _ _ t460
  have t495 := F476.1 _ _ t461
  have t496 := F476.1 _ _ t462
  have t497 := F476.1 _ _ t463
  have t498 := F476.1 _ _ t443
  have E499 := ev_trans E468 F476
  refine sw_sh P478.2.1 ?_
  refine sw_let (fun s500 es500 => ?_)
  have P501 := po_setR (k := 23) P478 (by simp) (s465.1)
  have G502 := gd_wR0 (k := 23) (v := some (s465.1)) G475 P478.1
  have E503 := ev_wR (k := 23) (v := some (s465.1)) E499 b0
  have P504 := po_othR (k := 23) (v := some (s465.1)) P479 (Ne.symm n55)
  have P505 := po_othR (k := 23) (v := some (s465.1)) P480 (Ne.symm n107)
  have P506 := po_othR (k := 23) (v := some (s465.1)) P481 (Ne.symm n129)
  have P507 := po_othR (k := 23) (v := some (s465.1)) P482 (Ne.symm n154)
  have ds500 : mm_wR s473 (σ.1) 23 (some (s465.1)) = s500 := es500
  rw [ds500] at P501 G502 E503 P504 P505 P506 P507
  refine sw_let (fun s508 es508 => ?_)
  obtain ⟨T509, G510, F511, t512⟩ : ∃ T', sGood F T' (mm_new s500 (.inr (1, 500))) ∧ sEV T474 s500 T' (mm_new s500 (.inr (1, 500))) ∧ T' s500.1 = some 74 := ⟨_, gd_arr (κ := 74) G502 ⟨fun sh e => by cases e; rfl, fun e => by cases e⟩ (fun k => rfl) (fun j => kr_n rfl) (fun j => by first | exact rfl | exact trivial)⟩
  rw [es508] at G510 F511
  have P513 := po_ev P501 F511
  have P514 := po_ev P504 F511
  have P515 := po_ev P505 F511
  have P516 := po_ev P506 F511
  have P517 := po_ev P507 F511
  have t518 := F511.1 _ _ t483
  have t519 := F511.1 _ _ t484
  have t520 := F511.1 _ _ t485
  have t521 := F511.1 _ _ t486
  have t522 := F511.1 _ _ t487
  have t523 := F511.1 _ _ t488
  have t524 := F511.1 _ _ t489
  have t525 := F511.1 _ _ t490
  have t526 := F511.1 _ _ t491
  have t527 := F511.1 _ _ t492
  have t528 := F511.1 _ _ t493
  have t529 := F511.1 _ _ t494
  have t530 := F511.1 _ _ t495
  have t531 := F511.1 _ _ t496
  have t532 := F511.1 _ _ t497
  have t533 := F511.1 _ _ t498
  have t534 := F511.1 _ _ t477
  have E535 := ev_trans E503 F511
  refine sw_sh P513.2.1 ?_
  refine sw_let (fun s536 es536 => ?_)
  have P537 := po_setR (k := 24) P513 (by simp) (s500.1)
  have G538 := gd_wR0 (k := 24) (v := some (s500.1)) G510 P513.1
  have E539 := ev_wR (k := 24) (v := some (s500.1)) E535 b0
  have P540 := po_othR (k := 24) (v := some (s500.1)) P514 (Ne.symm n55)
  have P541 := po_othR (k := 24) (v := some (s500.1)) P515 (Ne.symm n107)
  have P542 := po_othR (k := 24) (v := some (s500.1)) P516 (Ne.symm n129)
  have P543 := po_othR (k := 24) (v := some (s500.1)) P517 (Ne.symm n154)
  have ds536 : mm_wR s508 (σ.1) 24 (some (s500.1)) = s536 := es536
  rw [ds536] at P537 G538 E539 P540 P541 P542 P543
  refine sw_let (fun s544 es544 => ?_)
  obtain ⟨T545, G546, F547, t548⟩ : ∃ T', sGood F T' (mm_new s536 (.inr (0, 360))) ∧ sEV T509 s536 T' (mm_new s536 (.inr (0, 360))) ∧ T' s536.1 = some 75 := ⟨_, gd_arr (κ := 75) G538 ⟨fun sh e => by cases e; rfl, fun e => by cases e⟩ (fun k => rfl) (fun j => kr_n rfl) (fun j => by first | exact rfl | exact trivial)⟩
  rw [es544] at G546 F547
  have P549 := po_ev P537 F547
  have P550 := po_ev P540 F547
  have P551 := po_ev P541 F547
  have P552 := po_ev P542 F547
  have P553 := po_ev P543 F547
  have t554 := F547.1 _ _ t518
  have t555 := F547.1 _ _ t519
  have t556 := F547.1 _ _ t520
  have t557 := F547.1 _ _ t521
  have t558 := F547.1 _ _ t522
  have t559 := F547.1 _ _ t523
  have t560 := F547.1 _ _ t524
  have t561 := F547.1 _ _ t525
  have t562 := F547.1 _ _ t526
  have t563 := F547.1 _ _ t527
  have t564 := F547.1 _ _ t528
  have t565 := F547.1 _ _ t529
  have t566 := F547.1 _ _ t530
  have t567 := F547.1 _ _ t531
  have t568 := F547.1 _ _ t532
  have t569 := F547.1 _ _ t533
  have t570 := F547.1 _ _ t534
  have t571 := F547.1 _ _ t512
  have E572 := ev_trans E539 F547
  refine sw_sh P549.2.1 ?_
  refine sw_let (fun s573 es573 => ?_)
  have P574 := po_setR (k := 25) P549 (by simp) (s536.1)
  have G575 := gd_wR0 (k := 25) (v := some (s536.1)) G546 P549.1
  have E576 := ev_wR (k := 25) (v := some (s536.1)) E572 b0
  have P577 := po_othR (k := 25) (v := some (s536.1)) P550 (Ne.symm n55)
  have P578 := po_othR (k := 25) (v := some (s536.1)) P551 (Ne.symm n107)
  have P579 := po_othR (k := 25) (v := some (s536.1)) P552 (Ne.symm n129)
  have P580 := po_othR (k := 25) (v := some (s536.1)) P553 (Ne.symm n154)
  have ds573 : mm_wR s544 (σ.1) 25 (some (s536.1)) = s573 := es573
  rw [ds573] at P574 G575 E576 P577 P578 P579 P580
  refine sw_let (fun s581 es581 => ?_)
  obtain ⟨T582, G583, F584, t585⟩ : ∃ T', sGood F T' (mm_new s573 (.inr (1, 120))) ∧ sEV T545 s573 T' (mm_new s573 (.inr (1, 120))) ∧ T' s573.1 = some 76 := ⟨_, gd_arr (κ := 76) G575 ⟨fun sh e => by cases e; rfl, fun e => by cases e⟩ (fun k => rfl) (fun j => kr_n rfl) (fun j => by first | exact rfl | exact trivial)⟩
  rw [es581] at G583 F584
  have P586 := po_ev P574 F584
  have P587 := po_ev P577 F584
  have P588 := po_ev P578 F584
  have P589 := po_ev P579 F584
  have P590 := po_ev P580 F584
  have t591 := F584.1 _ _ t554
  have t592 := F584.1 _ _ t555
  have t593 := F584.1 _ _ t556
  have t594 := F584.1 _ _ t557
  have t595 := F584.1 _ _ t558
  have t596 := F584.1 _ _ t559
  have t597 := F584.1 _ _ t560
  have t598 := F584.1 _ _ t561
  have t599 := F584.1 _ _ t562
  have t600 := F584.1 _ _ t563
  have t601 := F584.1 _ _ t564
  have t602 := F584.1 _ _ t565
  have t603 := F584.1 _ _ t566
  have t604 := F584.1 _ _ t567
  have t605 := F584.1 _ _ t568
  have t606 := F584.1 _ _ t569
  have t607 := F584.1 _ _ t570
  have t608 := F584.1 _ _ t571
  have t609 := F584.1 _ _ t548
  have E610 := ev_trans E576 F584
  refine sw_sh P586.2.1 ?_
  refine sw_let (fun s611 es611 => ?_)
  have P612 := po_setR (k := 26) P586 (by simp) (s573.1)
  have G613 := gd_wR0 (k := 26) (v := some (s573.1)) G583 P586.1
  have E614 := ev_wR (k := 26) (v := some (s573.1)) E610 b0
  have P615 := po_othR (k := 26) (v := some (s573.1)) P587 (Ne.symm n55)
  have P616 := po_othR (k := 26) (v := some (s573.1)) P588 (Ne.symm n107)
  have P617 := po_othR (k := 26) (v := some (s573.1)) P589 (Ne.symm n129)
  have P618 := po_othR (k := 26) (v := some (s573.1)) P590 (Ne.symm n154)
  have ds611 : mm_wR s581 (σ.1) 26 (some (s573.1)) = s611 := es611
  rw [ds611] at P612 G613 E614 P615 P616 P617 P618
  have n623 : σ.1 ≠ s611.1 := Nat.ne_of_lt P612.2.2.1
  have n624 : s47.1 ≠ s611.1 := Nat.ne_of_lt P615.2.2.1
  have n625 : s98.1 ≠ s611.1 := Nat.ne_of_lt P616.2.2.1
  have n626 : s119.1 ≠ s611.1 := Nat.ne_of_lt P617.2.2.1
  have n627 : s143.1 ≠ s611.1 := Nat.ne_of_lt P618.2.2.1
  have b628 := E614.2.1
  refine sw_let (fun s619 es619 => ?_)
  have P620 := po_new G613.1 (.inr (0, 9))
  have G621 := gd_new G613 (.inr (0, 9))
  have F622 := ev_new (T := T582) (σ := s611) (.inr (0, 9))
  rw [es619] at P620 G621 F622
  have P629 := po_ev P612 F622
  have P630 := po_ev P615 F622
  have P631 := po_ev P616 F622
  have P632 := po_ev P617 F622
  have P633 := po_ev P618 F622
  have t634 := F622.1 _ _ t591
  have t635 := F622.1 _ _ t592
  have t636 := F622.1 _ _ t593
  have t637 := F622.1 _ _ t594
  have t638 := F622.1 _ _ t595
  have t639 := F622.1 _ _ t596
  have t640 := F622.1 _ _ t597
  have t641 := F622.1 _ _ t598
  have t642 := F622.1 _ _ t599
  have t643 := F622.1 _ _ t600
  have t644 := F622.1 _ _ t601
  have t645 := F622.1 _ _ t602
  have t646 := F622.1 _ _ t603
  have t647 := F622.1 _ _ t604
  have t648 := F622.1 _ _ t605
  have t649 := F622.1 _ _ t606
  have t650 := F622.1 _ _ t607
  have t651 := F622.1 _ _ t608
  have t652 := F622.1 _ _ t609
  have t653 := F622.1 _ _ t585
  have E654 := ev_trans E614 F622
  refine sw_sh P629.2.1 ?_
  refine sw_let (fun s655 es655 => ?_)
  have P656 := po_setR (k := 27) P629 (by simp) (s611.1)
  have G657 := gd_wR0 (k := 27) (v := some (s611.1)) G621 P629.1
  have E658 := ev_wR (k := 27) (v := some (s611.1)) E654 b0
  have P659 := po_othR (k := 27) (v := some (s611.1)) P630 (Ne.symm n55)
  have P660 := po_othR (k := 27) (v := some (s611.1)) P631 (Ne.symm n107)
  have P661 := po_othR (k := 27) (v := some (s611.1)) P632 (Ne.symm n129)
  have P662 := po_othR (k := 27) (v := some (s611.1)) P633 (Ne.symm n154)
  have P663 := po_othR (k := 27) (v := some (s611.1)) P620 (Ne.symm n623)
  have ds655 : mm_wR s619 (σ.1) 27 (some (s611.1)) = s655 := es655
  rw [ds655] at P656 G657 E658 P659 P660 P661 P662 P663
  refine sw_let (fun s664 es664 => ?_)
  obtain ⟨T665, G666, F667, t668⟩ : ∃ T', sGood F T' (mm_new s655 (.inr (2, 1000))) ∧ sEV T582 s655 T' (mm_new s655 (.inr (2, 1000))) ∧ T' s655.1 = some 82 := ⟨_, gd_arr (κ := 82) G657 ⟨fun sh e => by cases e; rfl, fun e => by cases e⟩ (fun k => rfl) (fun j => kr_n rfl) (fun j => by first | exact rfl | exact trivial)⟩
  rw [es664] at G666 F667
  have P669 := po_ev P656 F667
  have P670 := po_ev P659 F667
  have P671 := po_ev P660 F667
  have P672 := po_ev P661 F667
  have P673 := po_ev P662 F667
  have P674 := po_ev P663 F667
  have t675 := F667.1 _ _ t634
  have t676 := F667.1 _ _ t635
  have t677 := F667.1 _ _ t636
  have t678 := F667.1 _ _ t637
  have t679 := F667.1 _ _ t638
  have t680 := F667.1 _ _ t639
  have t681 := F667.1 _ _ t640
  have t682 := F667.1 _ _ t641
  have t683 := F667.1 _ _ t642
  have t684 := F667.1 _ _ t643
  have t685 := F667.1 _ _ t644
  have t686 := F667.1 _ _ t645
  have t687 := F667.1 _ _ t646
  have t688 := F667.1 _ _ t647
  have t689 := F667.1 _ _ t648
  have t690 := F667.1 _ _ t649
  have t691 := F667.1 _ _ t650
  have t692 := F667.1 _ _ t651
  have t693 := F667.1 _ _ t652
  have t694 := F667.1 _ _ t653
  have E695 := ev_trans E658 F667
  refine sw_sh P669.2.1 ?_
  refine sw_let (fun s696 es696 => ?_)
  have P697 := po_setR (k := 32) P669 (by simp) (s655.1)
  have G698 := gd_wR0 (k := 32) (v := some (s655.1)) G666 P669.1
  have E699 := ev_wR (k := 32) (v := some (s655.1)) E695 b0
  have P700 := po_othR (k := 32) (v := some (s655.1)) P670 (Ne.symm n55)
  have P701 := po_othR (k := 32) (v := some (s655.1)) P671 (Ne.symm n107)
  have P702 := po_othR (k := 32) (v := some (s655.1)) P672 (Ne.symm n129)
  have P703 := po_othR (k := 32) (v := some (s655.1)) P673 (Ne.symm n154)
  have P704 := po_othR (k := 32) (v := some (s655.1)) P674 (Ne.symm n623)
  have ds696 : mm_wR s664 (σ.1) 32 (some (s655.1)) = s696 := es696
  rw [ds696] at P697 G698 E699 P700 P701 P702 P703 P704
  refine sw_let (fun s705 es705 => ?_)
  obtain ⟨T706, G707, F708, t709⟩ : ∃ T', sGood F T' (mm_new s696 (.inr (1, 25))) ∧ sEV T665 s696 T' (mm_new s696 (.inr (1, 25))) ∧ T' s696.1 = some 83 := ⟨_, gd_arr (κ := 83) G698 ⟨fun sh e => by cases e; rfl, fun e => by cases e⟩ (fun k => rfl) (fun j => kr_n rfl) (fun j => by first | exact rfl | exact trivial)⟩
  rw [es705] at G707 F708
  have P710 := po_ev P697 F708
  have P711 := po_ev P700 F708
  have P712 := po_ev P701 F708
  have P713 := po_ev P702 F708
  have P714 := po_ev P703 F708
  have P715 := po_ev P704 F708
  have t716 := F708.1 _ _ t675
  have t717 := F708.1 _ _ t676
  have t718 := F708.1 _ _ t677
  have t719 := F708.1 _ _ t678
  have t720 := F708.1 _ _ t679
  have t721 := F708.1 _ _ t680
  have t722 := F708.1 _ _ t681
  have t723 := F708.1 _ _ t682
  have t724 := F708.1 _ _ t683
  have t725 := F708.1 _ _ t684
  have t726 := F708.1 _ _ t685
  have t727 := F708.1 _ _ t686
  have t728 := F708.1 _ _ t687
  have t729 := F708.1 _ _ t688
  have t730 := F708.1 _ _ t689
  have t731 := F708.1 _ _ t690
  have t732 := F708.1 _ _ t691
  have t733 := F708.1 _ _ t692
  have t734 := F708.1 _ _ t693
  have t735 := F708.1 _ _ t694
  have t736 := F708.1 _ _ t668
  have E737 := ev_trans E699 F708
  refine sw_sh P710.2.1 ?_
  refine sw_let (fun s738 es738 => ?_)
  have P739 := po_setR (k := 33) P710 (by simp) (s696.1)
  have G740 := gd_wR0 (k := 33) (v := some (s696.1)) G707 P710.1
  have E741 := ev_wR (k := 33) (v := some (s696.1)) E737 b0
  have P742 := po_othR (k := 33) (v := some (s696.1)) P711 (Ne.symm n55)
  have P743 := po_othR (k := 33) (v := some (s696.1)) P712 (Ne.symm n107)
  have P744 := po_othR (k := 33) (v := some (s696.1)) P713 (Ne.symm n129)
  have P745 := po_othR (k := 33) (v := some (s696.1)) P714 (Ne.symm n154)
  have P746 := po_othR (k := 33) (v := some (s696.1)) P715 (Ne.symm n623)
  have ds738 : mm_wR s705 (σ.1) 33 (some (s696.1)) = s738 := es738
  rw [ds738] at P739 G740 E741 P742 P743 P744 P745 P746
  refine sw_let (fun s747 es747 => ?_)
  obtain ⟨T748, G749, F750, t751⟩ : ∃ T', sGood F T' (mm_new s738 (.inr (0, 60))) ∧ sEV T706 s738 T' (mm_new s738 (.inr (0, 60))) ∧ T' s738.1 = some 86 := ⟨_, gd_arr (κ := 86) G740 ⟨fun sh e => by cases e; rfl, fun e => by cases e⟩ (fun k => rfl) (fun j => kr_n rfl) (fun j => by first | exact rfl | exact trivial)⟩
  rw [es747] at G749 F750
  have P752 := po_ev P739 F750
  have P753 := po_ev P742 F750
  have P754 := po_ev P743 F750
  have P755 := po_ev P744 F750
  have P756 := po_ev P745 F750
  have P757 := po_ev P746 F750
  have t758 := F750.1 _ _ t716
  have t759 := F750.1 _ _ t717
  have t760 := F750.1 _ _ t718
  have t761 := F750.1 _ _ t719
  have t762 := F750.1 _ _ t720
  have t763 := F750.1 _ _ t721
  have t764 := F750.1 _ _ t722
  have t765 := F750.1 _ _ t723
  have t766 := F750.1 _ _ t724
  have t767 := F750.1 _ _ t725
  have t768 := F750.1 _ _ t726
  have t769 := F750.1 _ _ t727
  have t770 := F750.1 _ _ t728
  have t771 := F750.1 _ _ t729
  have t772 := F750.1 _ _ t730
  have t773 := F750.1 _ _ t731
  have t774 := F750.1 _ _ t732
  have t775 := F750.1 _ _ t733
  have t776 := F750.1 _ _ t734
  have t777 := F750.1 _ _ t735
  have t778 := F750.1 _ _ t736
  have t779 := F750.1 _ _ t709
  have E780 := ev_trans E741 F750
  refine sw_sh P752.2.1 ?_
  refine sw_let (fun s781 es781 => ?_)
  have P782 := po_setR (k := 36) P752 (by simp) (s738.1)
  have G783 := gd_wR0 (k := 36) (v := some (s738.1)) G749 P752.1
  have E784 := ev_wR (k := 36) (v := some (s738.1)) E780 b0
  have P785 := po_othR (k := 36) (v := some (s738.1)) P753 (Ne.symm n55)
  have P786 := po_othR (k := 36) (v := some (s738.1)) P754 (Ne.symm n107)
  have P787 := po_othR (k := 36) (v := some (s738.1)) P755 (Ne.symm n129)
  have P788 := po_othR (k := 36) (v := some (s738.1)) P756 (Ne.symm n154)
  have P789 := po_othR (k := 36) (v := some (s738.1)) P757 (Ne.symm n623)
  have ds781 : mm_wR s747 (σ.1) 36 (some (s738.1)) = s781 := es781
  rw [ds781] at P782 G783 E784 P785 P786 P787 P788 P789
  refine sw_let (fun s790 es790 => ?_)
  obtain ⟨T791, G792, F793, t794⟩ : ∃ T', sGood F T' (mm_new s781 (.inr (0, 60))) ∧ sEV T748 s781 T' (mm_new s781 (.inr (0, 60))) ∧ T' s781.1 = some 87 := ⟨_, gd_arr (κ := 87) G783 ⟨fun sh e => by cases e; rfl, fun e => by cases e⟩ (fun k => rfl) (fun j => kr_n rfl) (fun j => by first | exact rfl | exact trivial)⟩
  rw [es790] at G792 F793
  have P795 := po_ev P782 F793
  have P796 := po_ev P785 F793
  have P797 := po_ev P786 F793
  have P798 := po_ev P787 F793
  have P799 := po_ev P788 F793
  have P800 := po_ev P789 F793
  have t801 := F793.1 _ _ t758
  have t802 := F793.1 _ _ t759
  have t803 := F793.1 _ _ t760
  have t804 := F793.1 _ _ t761
  have t805 := F793.1 _ _ t762
  have t806 := F793.1 _ _ t763
  have t807 := F793.1 _ _ t764
  have t808 := F793.1 _ _ t765
  have t809 := F793.1 _ _ t766
  have t810 := F793.1 _ _ t767
  have t811 := F793.1 _ _ t768
  have t812 := F793.1 _ _ t769
  have t813 := F793.1 _ _ t770
  have t814 := F793.1 _ _ t771
  have t815 := F793.1 _ _ t772
  have t816 := F793.1 _ _ t773
  have t817 := F793.1 _ _ t774
  have t818 := F793.1 _ _ t775
  have t819 := F793.1 _ _ t776
  have t820 := F793.1 _ _ t777
  have t821 := F793.1 _ _ t778
  have t822 := F793.1 _ _ t779
  have t823 := F793.1 _ _ t751
  have E824 := ev_trans E784 F793
  refine sw_sh P795.2.1 ?_
  refine sw_let (fun s825 es825 => ?_)
  have P826 := po_setR (k := 37) P795 (by simp) (s781.1)
  have G827 := gd_wR0 (k := 37) (v := some (s781.1)) G792 P795.1
  have E828 := ev_wR (k := 37) (v := some (s781.1)) E824 b0
  have P829 := po_othR (k := 37) (v := some (s781.1)) P796 (Ne.symm n55)
  have P830 := po_othR (k := 37) (v := some (s781.1)) P797 (Ne.symm n107)
  have P831 := po_othR (k := 37) (v := some (s781.1)) P798 (Ne.symm n129)
  have P832 := po_othR (k := 37) (v := some (s781.1)) P799 (Ne.symm n154)
  have P833 := po_othR (k := 37) (v := some (s781.1)) P800 (Ne.symm n623)
  have ds825 : mm_wR s790 (σ.1) 37 (some (s781.1)) = s825 := es825
  rw [ds825] at P826 G827 E828 P829 P830 P831 P832 P833
  refine sw_let (fun s834 es834 => ?_)
  obtain ⟨T835, G836, F837, t838⟩ : ∃ T', sGood F T' (mm_new s825 (.inr (0, 60))) ∧ sEV T791 s825 T' (mm_new s825 (.inr (0, 60))) ∧ T' s825.1 = some 88 := ⟨_, gd_arr (κ := 88) G827 ⟨fun sh e => by cases e; rfl, fun e => by cases e⟩ (fun k => rfl) (fun j => kr_n rfl) (fun j => by first | exact rfl | exact trivial)⟩
  rw [es834] at G836 F837
  have P839 := po_ev P826 F837
  have P840 := po_ev P829 F837
  have P841 := po_ev P830 F837
  have P842 := po_ev P831 F837
  have P843 := po_ev P832 F837
  have P844 := po_ev P833 F837
  have t845 := F837.1 _ _ t801
  have t846 := F837.1 _ _ t802
  have t847 := F837.1 _ _ t803
  have t848 := F837.1 _ _ t804
  have t849 := F837.1 _ _ t805
  have t850 := F837.1 _ _ t806
  have t851 := F837.1 _ _ t807
  have t852 := F837.1 _ _ t808
  have t853 := F837.1 _ _ t809
  have t854 := F837.1 _ _ t810
  have t855 := F837.1 _ _ t811
  have t856 := F837.1 _ _ t812
  have t857 := F837.1 _ _ t813
  have t858 := F837.1 _ _ t814
  have t859 := F837.1 _ _ t815
  have t860 := F837.1 _ _ t816
  have t861 := F837.1 _ _ t817
  have t862 := F837.1 _ _ t818
  have t863 := F837.1 _ _ t819
  have t864 := F837.1 _ _ t820
  have t865 := F837.1 _ _ t821
  have t866 := F837.1 _ _ t822
  have t867 := F837.1 _ _ t823
  have t868 := F837.1 _ _ t794
  have E869 := ev_trans E828 F837
  refine sw_sh P839.2.1 ?_
  refine sw_let (fun s870 es870 => ?_)
  have P871 := po_setR (k := 38) P839 (by simp) (s825.1)
  have G872 := gd_wR0 (k := 38) (v := some (s825.1)) G836 P839.1
  have E873 := ev_wR (k := 38) (v := some (s825.1)) E869 b0
  have P874 := po_othR (k := 38) (v := some (s825.1)) P840 (Ne.symm n55)
  have P875 := po_othR (k := 38) (v := some (s825.1)) P841 (Ne.symm n107)
  have P876 := po_othR (k := 38) (v := some (s825.1)) P842 (Ne.symm n129)
  have P877 := po_othR (k := 38) (v := some (s825.1)) P843 (Ne.symm n154)
  have P878 := po_othR (k := 38) (v := some (s825.1)) P844 (Ne.symm n623)
  have ds870 : mm_wR s834 (σ.1) 38 (some (s825.1)) = s870 := es870
  rw [ds870] at P871 G872 E873 P874 P875 P876 P877 P878
  refine sw_let (fun s879 es879 => ?_)
  obtain ⟨T880, G881, F882, t883⟩ : ∃ T', sGood F T' (mm_new s870 (.inr (0, 60))) ∧ sEV T835 s870 T' (mm_new s870 (.inr (0, 60))) ∧ T' s870.1 = some 89 := ⟨_, gd_arr (κ := 89) G872 ⟨fun sh e => by cases e; rfl, fun e => by cases e⟩ (fun k => rfl) (fun j => kr_s (lo := 0) (hi := 400) rfl (by decide)) (fun j => by first | exact rfl | exact trivial)⟩
  rw [es879] at G881 F882
  have P884 := po_ev P871 F882
  have P885 := po_ev P874 F882
  have P886 := po_ev P875 F882
  have P887 := po_ev P876 F882
  have P888 := po_ev P877 F882
  have P889 := po_ev P878 F882
  have t890 := F882.1 _ _ t845
  have t891 := F882.1 _ _ t846
  have t892 := F882.1 _ _ t847
  have t893 := F882.1 _ _ t848
  have t894 := F882.1 _ _ t849
  have t895 := F882.1 _ _ t850
  have t896 := F882.1 _ _ t851
  have t897 := F882.1 _ _ t852
  have t898 := F882.1 _ _ t853
  have t899 := F882.1 _ _ t854
  have t900 := F882.1 _ _ t855
  have t901 := F882.1 _ _ t856
  have t902 := F882.1 _ _ t857
  have t903 := F882.1 _ _ t858
  have t904 := F882.1 _ _ t859
  have t905 := F882.1 _ _ t860
  have t906 := F882.1 _ _ t861
  have t907 := F882.1 _ _ t862
  have t908 := F882.1 _ _ t863
  have t909 := F882.1 _ _ t864
  have t910 := F882.1 _ _ t865
  have t911 := F882.1 _ _ t866
  have t912 := F882.1 _ _ t867
  have t913 := F882.1 _ _ t868
  have t914 := F882.1 _ _ t838
  have E915 := ev_trans E873 F882
  refine sw_sh P884.2.1 ?_
  refine sw_let (fun s916 es916 => ?_)
  have P917 := po_setR (k := 39) P884 (by simp) (s870.1)
  have G918 := gd_wR0 (k := 39) (v := some (s870.1)) G881 P884.1
  have E919 := ev_wR (k := 39) (v := some (s870.1)) E915 b0
  have P920 := po_othR (k := 39) (v := some (s870.1)) P885 (Ne.symm n55)
  have P921 := po_othR (k := 39) (v := some (s870.1)) P886 (Ne.symm n107)
  have P922 := po_othR (k := 39) (v := some (s870.1)) P887 (Ne.symm n129)
  have P923 := po_othR (k := 39) (v := some (s870.1)) P888 (Ne.symm n154)
  have P924 := po_othR (k := 39) (v := some (s870.1)) P889 (Ne.symm n623)
  have ds916 : mm_wR s879 (σ.1) 39 (some (s870.1)) = s916 := es916
  rw [ds916] at P917 G918 E919 P920 P921 P922 P923 P924
  refine sw_let (fun s925 es925 => ?_)
  obtain ⟨T926, G927, F928, t929⟩ : ∃ T', sGood F T' (mm_new s916 (.inr (2, 24000))) ∧ sEV T880 s916 T' (mm_new s916 (.inr (2, 24000))) ∧ T' s916.1 = some 90 := ⟨_, gd_arr (κ := 90) G918 ⟨fun sh e => by cases e; rfl, fun e => by cases e⟩ (fun k => rfl) (fun j => kr_n rfl) (fun j => by first | exact rfl | exact trivial)⟩
  rw [es925] at G927 F928
  have P930 := po_ev P917 F928
  have P931 := po_ev P920 F928
  have P932 := po_ev P921 F928
  have P933 := po_ev P922 F928
  have P934 := po_ev P923 F928
  have P935 := po_ev P924 F928
  have t936 := F928.1 _ _ t890
  have t937 := F928.1 _ _ t891
  have t938 := F928.1 _ _ t892
  have t939 := F928.1 _ _ t893
  have t940 := F928.1 _ _ t894
  have t941 := F928.1 _ _ t895
  have t942 := F928.1 _ _ t896
  have t943 := F928.1 _ _ t897
  have t944 := F928.1 _ _ t898
  have t945 := F928.1 _ _ t899
  have t946 := F928.1 _ _ t900
  have t947 := F928.1 _ _ t901
  have t948 := F928.1 _ _ t902
  have t949 := F928.1 _ _ t903
  have t950 := F928.1 _ _ t904
  have t951 := F928.1 _ _ t905
  have t952 := F928.1 _ _ t906
  have t953 := F928.1 _ _ t907
  have t954 := F928.1 _ _ t908
  have t955 := F928.1 _ _ t909
  have t956 := F928.1 _ _ t910
  have t957 := F928.1 _ _ t911
  have t958 := F928.1 _ _ t912
  have t959 := F928.1 _ _ t913
  have t960 := F928.1 _ _ t914
  have t961 := F928.1 _ _ t883
  have E962 := ev_trans E919 F928
  refine sw_sh P930.2.1 ?_
  refine sw_let (fun s963 es963 => ?_)
  have P964 := po_setR (k := 40) P930 (by simp) (s916.1)
  have G965 := gd_wR0 (k := 40) (v := some (s916.1)) G927 P930.1
  have E966 := ev_wR (k := 40) (v := some (s916.1)) E962 b0
  have P967 := po_othR (k := 40) (v := some (s916.1)) P931 (Ne.symm n55)
  have P968 := po_othR (k := 40) (v := some (s916.1)) P932 (Ne.symm n107)
  have P969 := po_othR (k := 40) (v := some (s916.1)) P933 (Ne.symm n129)
  have P970 := po_othR (k := 40) (v := some (s916.1)) P934 (Ne.symm n154)
  have P971 := po_othR (k := 40) (v := some (s916.1)) P935 (Ne.symm n623)
  have ds963 : mm_wR s925 (σ.1) 40 (some (s916.1)) = s963 := es963
  rw [ds963] at P964 G965 E966 P967 P968 P969 P970 P971
  have n976 : σ.1 ≠ s963.1 := Nat.ne_of_lt P964.2.2.1
  have n977 : s47.1 ≠ s963.1 := Nat.ne_of_lt P967.2.2.1
  have n978 : s98.1 ≠ s963.1 := Nat.ne_of_lt P968.2.2.1
  have n979 : s119.1 ≠ s963.1 := Nat.ne_of_lt P969.2.2.1
  have n980 : s143.1 ≠ s963.1 := Nat.ne_of_lt P970.2.2.1
  have n981 : s611.1 ≠ s963.1 := Nat.ne_of_lt P971.2.2.1
  have b982 := E966.2.1
  refine sw_let (fun s972 es972 => ?_)
  have P973 := po_new G965.1 (.inr (0, 5))
  have G974 := gd_new G965 (.inr (0, 5))
  have F975 := ev_new (T := T926) (σ := s963) (.inr (0, 5))
  rw [es972] at P973 G974 F975
  have P983 := po_ev P964 F975
  have P984 := po_ev P967 F975
  have P985 := po_ev P968 F975
  have P986 := po_ev P969 F975
  have P987 := po_ev P970 F975
  have P988 := po_ev P971 F975
  have t989 := F975.1 _ _ t936
  have t990 := F975.1 _ _ t937
  have t991 := F975.1 _ _ t938
  have t992 := F975.1 _ _ t939
  have t993 := F975.1 _ _ t940
  have t994 := F975.1 _ _ t941
  have t995 := F975.1 _ _ t942
  have t996 := F975.1 _ _ t943
  have t997 := F975.1 _ _ t944
  have t998 := F975.1 _ _ t945
  have t999 := F975.1 _ _ t946
  have t1000 := F975.1 _ _ t947
  have t1001 := F975.1 _ _ t948
  have t1002 := F975.1 _ _ t949
  have t1003 := F975.1 _ _ t950
  have t1004 := F975.1 _ _ t951
  have t1005 := F975.1 _ _ t952
  have t1006 := F975.1 _ _ t953
  have t1007 := F975.1 _ _ t954
  have t1008 := F975.1 _ _ t955
  have t1009 := F975.1 _ _ t956
  have t1010 := F975.1 _ _ t957
  have t1011 := F975.1 _ _ t958
  have t1012 := F975.1 _ _ t959
  have t1013 := F975.1 _ _ t960
  have t1014 := F975.1 _ _ t961
  have t1015 := F975.1 _ _ t929
  have E1016 := ev_trans E966 F975
  refine sw_sh P983.2.1 ?_
  refine sw_let (fun s1017 es1017 => ?_)
  have P1018 := po_setR (k := 41) P983 (by simp) (s963.1)
  have G1019 := gd_wR0 (k := 41) (v := some (s963.1)) G974 P983.1
  have E1020 := ev_wR (k := 41) (v := some (s963.1)) E1016 b0
  have P1021 := po_othR (k := 41) (v := some (s963.1)) P984 (Ne.symm n55)
  have P1022 := po_othR (k := 41) (v := some (s963.1)) P985 (Ne.symm n107)
  have P1023 := po_othR (k := 41) (v := some (s963.1)) P986 (Ne.symm n129)
  have P1024 := po_othR (k := 41) (v := some (s963.1)) P987 (Ne.symm n154)
  have P1025 := po_othR (k := 41) (v := some (s963.1)) P988 (Ne.symm n623)
  have P1026 := po_othR (k := 41) (v := some (s963.1)) P973 (Ne.symm n976)
  have ds1017 : mm_wR s972 (σ.1) 41 (some (s963.1)) = s1017 := es1017
  rw [ds1017] at P1018 G1019 E1020 P1021 P1022 P1023 P1024 P1025 P1026
  refine sw_let (fun s1027 es1027 => ?_)
  obtain ⟨T1028, G1029, F1030, t1031⟩ : ∃ T', sGood F T' (mm_new s1017 (.inr (0, 128))) ∧ sEV T926 s1017 T' (mm_new s1017 (.inr (0, 128))) ∧ T' s1017.1 = some 92 := ⟨_, gd_arr (κ := 92) G1019 ⟨fun sh e => by cases e; rfl, fun e => by cases e⟩ (fun k => rfl) (fun j => kr_n rfl) (fun j => by first | exact rfl | exact trivial)⟩
  rw [es1027] at G1029 F1030
  have P1032 := po_ev P1018 F1030
  have P1033 := po_ev P1021 F1030
  have P1034 := po_ev P1022 F1030
  have P1035 := po_ev P1023 F1030
  have P1036 := po_ev P1024 F1030
  have P1037 := po_ev P1025 F1030
  have P1038 := po_ev P1026 F1030
  have t1039 := F1030.1 _ _ t989
  have t1040 := F1030.1 _ _ t990
  have t1041 := F1030.1 _ _ t991
  have t1042 := F1030.1 _ _ t992
  have t1043 := F1030.1 _ _ t993
  have t1044 := F1030.1 _ _ t994
  have t1045 := F1030.1 _ _ t995
  have t1046 := F1030.1 _ _ t996
  have t1047 := F1030.1 _ _ t997
  have t1048 := F1030.1 _ _ t998
  have t1049 := F1030.1 _ _ t999
  have t1050 := F1030.1 _ _ t1000
  have t1051 := F1030.1 _ _ t1001
  have t1052 := F1030.1 _ _ t1002
  have t1053 := F1030.1 _ _ t1003
  have t1054 := F1030.1 _ _ t1004
  have t1055 := F1030.1 _ _ t1005
  have t1056 := F1030.1 _ _ t1006
  have t1057 := F1030.1 _ _ t1007
  have t1058 := F1030.1 _ _ t1008
  have t1059 := F1030.1 _ _ t1009
  have t1060 := F1030.1 _ _ t1010
  have t1061 := F1030.1 _ _ t1011
  have t1062 := F1030.1 _ _ t1012
  have t1063 := F1030.1 _ _ t1013
  have t1064 := F1030.1 _ _ t1014
  have t1065 := F1030.1 _ _ t1015
  have E1066 := ev_trans E1020 F1030
  refine sw_sh P1032.2.1 ?_
  refine sw_let (fun s1067 es1067 => ?_)
  have P1068 := po_setR (k := 42) P1032 (by simp) (s1017.1)
  have G1069 := gd_wR0 (k := 42) (v := some (s1017.1)) G1029 P1032.1
  have E1070 := ev_wR (k := 42) (v := some (s1017.1)) E1066 b0
  have P1071 := po_othR (k := 42) (v := some (s1017.1)) P1033 (Ne.symm n55)
  have P1072 := po_othR (k := 42) (v := some (s1017.1)) P1034 (Ne.symm n107)
  have P1073 := po_othR (k := 42) (v := some (s1017.1)) P1035 (Ne.symm n129)
  have P1074 := po_othR (k := 42) (v := some (s1017.1)) P1036 (Ne.symm n154)
  have P1075 := po_othR (k := 42) (v := some (s1017.1)) P1037 (Ne.symm n623)
  have P1076 := po_othR (k := 42) (v := some (s1017.1)) P1038 (Ne.symm n976)
  have ds1067 : mm_wR s1027 (σ.1) 42 (some (s1017.1)) = s1067 := es1067
  rw [ds1067] at P1068 G1069 E1070 P1071 P1072 P1073 P1074 P1075 P1076
  refine sw_let (fun s1077 es1077 => ?_)
  obtain ⟨T1078, G1079, F1080, t1081⟩ : ∃ T', sGood F T' (mm_new s1067 (.inr (0, 128))) ∧ sEV T1028 s1067 T' (mm_new s1067 (.inr (0, 128))) ∧ T' s1067.1 = some 93 := ⟨_, gd_arr (κ := 93) G1069 ⟨fun sh e => by cases e; rfl, fun e => by cases e⟩ (fun k => rfl) (fun j => kr_n rfl) (fun j => by first | exact rfl | exact trivial)⟩
  rw [es1077] at G1079 F1080
  have P1082 := po_ev P1068 F1080
  have P1083 := po_ev P1071 F1080
  have P1084 := po_ev P1072 F1080
  have P1085 := po_ev P1073 F1080
  have P1086 := po_ev P1074 F1080
  have P1087 := po_ev P1075 F1080
  have P1088 := po_ev P1076 F1080
  have t1089 := F1080.1 _ _ t1039
  have t1090 := F1080.1 _ _ t1040
  have t1091 := F1080.1 _ _ t1041
  have t1092 := F1080.1 _ _ t1042
  have t1093 := F1080.1 _ _ t1043
  have t1094 := F1080.1 _ _ t1044
  have t1095 := F1080.1 _ _ t1045
  have t1096 := F1080.1 _ _ t1046
  have t1097 := F1080.1 _ _ t1047
  have t1098 := F1080.1 _ _ t1048
  have t1099 := F1080.1 _ _ t1049
  have t1100 := F1080.1 _ _ t1050
  have t1101 := F1080.1 _ _ t1051
  have t1102 := F1080.1 _ _ t1052
  have t1103 := F1080.1 _ _ t1053
  have t1104 := F1080.1 _ _ t1054
  have t1105 := F1080.1 _ _ t1055
  have t1106 := F1080.1 _ _ t1056
  have t1107 := F1080.1 _ _ t1057
  have t1108 := F1080.1 _ _ t1058
  have t1109 := F1080.1 _ _ t1059
  have t1110 := F1080.1 _ _ t1060
  have t1111 := F1080.1 _ _ t1061
  have t1112 := F1080.1 _ _ t1062
  have t1113 := F1080.1 _ _ t1063
  have t1114 := F1080.1 _ _ t1064
  have t1115 := F1080.1 _ _ t1065
  have t1116 := F1080.1 _ _ t1031
  have E1117 := ev_trans E1070 F1080
  refine sw_sh P1082.2.1 ?_
  refine sw_let (fun s1118 es1118 => ?_)
  have P1119 := po_setR (k := 43) P1082 (by simp) (s1067.1)
  have G1120 := gd_wR0 (k := 43) (v := some (s1067.1)) G1079 P1082.1
  have E1121 := ev_wR (k := 43) (v := some (s1067.1)) E1117 b0
  have P1122 := po_othR (k := 43) (v := some (s1067.1)) P1083 (Ne.symm n55)
  have P1123 := po_othR (k := 43) (v := some (s1067.1)) P1084 (Ne.symm n107)
  have P1124 := po_othR (k := 43) (v := some (s1067.1)) P1085 (Ne.symm n129)
  have P1125 := po_othR (k := 43) (v := some (s1067.1)) P1086 (Ne.symm n154)
  have P1126 := po_othR (k := 43) (v := some (s1067.1)) P1087 (Ne.symm n623)
  have P1127 := po_othR (k := 43) (v := some (s1067.1)) P1088 (Ne.symm n976)
  have ds1118 : mm_wR s1077 (σ.1) 43 (some (s1067.1)) = s1118 := es1118
  rw [ds1118] at P1119 G1120 E1121 P1122 P1123 P1124 P1125 P1126 P1127
  refine sw_let (fun s1128 es1128 => ?_)
  obtain ⟨T1129, G1130, F1131, t1132⟩ : ∃ T', sGood F T' (mm_new s1118 (.inr (2, 1100))) ∧ sEV T1078 s1118 T' (mm_new s1118 (.inr (2, 1100))) ∧ T' s1118.1 = some 95 := ⟨_, gd_arr (κ := 95) G1120 ⟨fun sh e => by cases e; rfl, fun e => by cases e⟩ (fun k => rfl) (fun j => kr_n rfl) (fun j => by first | exact rfl | exact trivial)⟩
  rw [es1128] at G1130 F1131
  have P1133 := po_ev P1119 F1131
  have P1134 := po_ev P1122 F1131
  have P1135 := po_ev P1123 F1131
  have P1136 := po_ev P1124 F1131
  have P1137 := po_ev P1125 F1131
  have P1138 := po_ev P1126 F1131
  have P1139 := po_ev P1127 F1131
  have t1140 := F1131.1 _ _ t1089
  have t1141 := F1131.1 _ _ t1090
  have t1142 := F1131.1 _ _ t1091
  have t1143 := F1131.1 _ _ t1092
  have t1144 := F1131.1 _ _ t1093
  have t1145 := F1131.1 _ _ t1094
  have t1146 := F1131.1 _ _ t1095
  have t1147 := F1131.1 _ _ t1096
  have t1148 := F1131.1 _ _ t1097
  have t1149 := F1131.1 _ _ t1098
  have t1150 := F1131.1 _ _ t1099
  have t1151 := F1131.1 _ _ t1100
  have t1152 := F1131.1 _ _ t1101
  have t1153 := F1131.1 _ _ t1102
  have t1154 := F1131.1 _ _ t1103
  have t1155 := F1131.1 _ _ t1104
  have t1156 := F1131.1 _ _ t1105
  have t1157 := F1131.1 _ _ t1106
  have t1158 := F1131.1 _ _ t1107
  have t1159 := F1131.1 _ _ t1108
  have t1160 := F1131.1 _ _ t1109
  have t1161 := F1131.1 _ _ t1110
  have t1162 := F1131.1 _ _ t1111
  have t1163 := F1131.1 _ _ t1112
  have t1164 := F1131.1 _ _ t1113
  have t1165 := F1131.1 _ _ t1114
  have t1166 := F1131.1 _ _ t1115
  have t1167 := F1131.1 _ _ t1116
  have t1168 := F1131.1 _ _ t1081
  have E1169 := ev_trans E1121 F1131
  refine sw_sh P1133.2.1 ?_
  refine sw_let (fun s1170 es1170 => ?_)
  have P1171 := po_setR (k := 45) P1133 (by simp) (s1118.1)
  have G1172 := gd_wR0 (k := 45) (v := some (s1118.1)) G1130 P1133.1
  have E1173 := ev_wR (k := 45) (v := some (s1118.1)) E1169 b0
  have P1174 := po_othR (k := 45) (v := some (s1118.1)) P1134 (Ne.symm n55)
  have P1175 := po_othR (k := 45) (v := some (s1118.1)) P1135 (Ne.symm n107)
  have P1176 := po_othR (k := 45) (v := some (s1118.1)) P1136 (Ne.symm n129)
  have P1177 := po_othR (k := 45) (v := some (s1118.1)) P1137 (Ne.symm n154)
  have P1178 := po_othR (k := 45) (v := some (s1118.1)) P1138 (Ne.symm n623)
  have P1179 := po_othR (k := 45) (v := some (s1118.1)) P1139 (Ne.symm n976)
  have ds1170 : mm_wR s1128 (σ.1) 45 (some (s1118.1)) = s1170 := es1170
  rw [ds1170] at P1171 G1172 E1173 P1174 P1175 P1176 P1177 P1178 P1179
  rw [show mm_fuel = 1980 + 20 from rfl]
  unfold fX9_init_294
  refine sw_ite (fun h => absurd h (by decide)) (fun _ => ?_)
  refine sw_sh P1171.2.1 ?_
  refine sw_onS (q := s47.1) (P1171.2.2.2.2.1 (5, s47.1) (by simp)) ?_
  refine sw_ar P1174.2.1 ?_
  refine sw_ib (by decide) ?_
  refine sw_let (fun s1180 es1180 => ?_)
  have P1181 := po_setI P1174 0 1
  have G1182 := gd_wI0 (j := 0) (v := 1) G1172 P1174.1
  have E1183 := ev_wI (j := 0) (v := 1) E1173 b56
  have P1184 := po_othI (j := 0) (v := 1) P1171 n55
  have P1185 := po_othI (j := 0) (v := 1) P1175 (Ne.symm n108)
  have P1186 := po_othI (j := 0) (v := 1) P1176 (Ne.symm n130)
  have P1187 := po_othI (j := 0) (v := 1) P1177 (Ne.symm n155)
  have P1188 := po_othI (j := 0) (v := 1) P1178 (Ne.symm n624)
  have P1189 := po_othI (j := 0) (v := 1) P1179 (Ne.symm n977)
  have ds1180 : mm_wI s1170 (s47.1) 0 1 = s1180 := es1180
  rw [ds1180] at P1181 G1182 E1183 P1184 P1185 P1186 P1187 P1188 P1189
  refine sw_onS (q := s98.1) (P1184.2.2.2.2.1 (8, s98.1) (by simp)) ?_
  refine sw_ar P1185.2.1 ?_
  refine sw_ib (by decide) ?_
  refine sw_let (fun s1190 es1190 => ?_)
  have P1191 := po_setI P1185 0 2
  have G1192 := gd_wI0 (j := 0) (v := 2) G1182 P1185.1
  have E1193 := ev_wI (j := 0) (v := 2) E1183 b109
  have P1194 := po_othI (j := 0) (v := 2) P1184 n107
  have P1195 := po_othI (j := 0) (v := 2) P1181 n108
  have P1196 := po_othI (j := 0) (v := 2) P1186 (Ne.symm n131)
  have P1197 := po_othI (j := 0) (v := 2) P1187 (Ne.symm n156)
  have P1198 := po_othI (j := 0) (v := 2) P1188 (Ne.symm n625)
  have P1199 := po_othI (j := 0) (v := 2) P1189 (Ne.symm n978)
  have ds1190 : mm_wI s1180 (s98.1) 0 2 = s1190 := es1190
  rw [ds1190] at P1191 G1192 E1193 P1194 P1195 P1196 P1197 P1198 P1199
  unfold fX9_init_294
  refine sw_ite (fun h => absurd h (by decide)) (fun _ => ?_)
  refine sw_sh P1194.2.1 ?_
  refine sw_onS (q := s47.1) (P1194.2.2.2.2.1 (5, s47.1) (by simp)) ?_
  refine sw_ar P1195.2.1 ?_
  refine sw_ib (by decide) ?_
  refine sw_let (fun s1200 es1200 => ?_)
  have P1201 := po_setI P1195 1 1
  have G1202 := gd_wI0 (j := 1) (v := 1) G1192 P1195.1
  have E1203 := ev_wI (j := 1) (v := 1) E1193 b56
  have P1204 := po_othI (j := 1) (v := 1) P1194 n55
  have P1205 := po_othI (j := 1) (v := 1) P1191 (Ne.symm n108)
  have P1206 := po_othI (j := 1) (v := 1) P1196 (Ne.symm n130)
  have P1207 := po_othI (j := 1) (v := 1) P1197 (Ne.symm n155)
  have P1208 := po_othI (j := 1) (v := 1) P1198 (Ne.symm n624)
  have P1209 := po_othI (j := 1) (v := 1) P1199 (Ne.symm n977)
  have ds1200 : mm_wI s1190 (s47.1) 1 1 = s1200 := es1200
  rw [ds1200] at P1201 G1202 E1203 P1204 P1205 P1206 P1207 P1208 P1209
  refine sw_onS (q := s98.1) (P1204.2.2.2.2.1 (8, s98.1) (by simp)) ?_
  refine sw_ar P1205.2.1 ?_
  refine sw_ib (by decide) ?_
  refine sw_let (fun s1210 es1210 => ?_)
  have P1211 := po_setI P1205 1 2
  have G1212 := gd_wI0 (j := 1) (v := 2) G1202 P1205.1
  have E1213 := ev_wI (j := 1) (v := 2) E1203 b109
  have P1214 := po_othI (j := 1) (v := 2) P1204 n107
  have P1215 := po_othI (j := 1) (v := 2) P1201 n108
  have P1216 := po_othI (j := 1) (v := 2) P1206 (Ne.symm n131)
  have P1217 := po_othI (j := 1) (v := 2) P1207 (Ne.symm n156)
  have P1218 := po_othI (j := 1) (v := 2) P1208 (Ne.symm n625)
  have P1219 := po_othI (j := 1) (v := 2) P1209 (Ne.symm n978)
  have ds1210 : mm_wI s1200 (s98.1) 1 2 = s1210 := es1210
  rw [ds1210] at P1211 G1212 E1213 P1214 P1215 P1216 P1217 P1218 P1219
  unfold fX9_init_294
  refine sw_ite (fun h => absurd h (by decide)) (fun _ => ?_)
  refine sw_sh P1214.2.1 ?_
  refine sw_onS (q := s47.1) (P1214.2.2.2.2.1 (5, s47.1) (by simp)) ?_
  refine sw_ar P1215.2.1 ?_
  refine sw_ib (by decide) ?_
  refine sw_let (fun s1220 es1220 => ?_)
  have P1221 := po_setI P1215 2 1
  have G1222 := gd_wI0 (j := 2) (v := 1) G1212 P1215.1
  have E1223 := ev_wI (j := 2) (v := 1) E1213 b56
  have P1224 := po_othI (j := 2) (v := 1) P1214 n55
  have P1225 := po_othI (j := 2) (v := 1) P1211 (Ne.symm n108)
  have P1226 := po_othI (j := 2) (v := 1) P1216 (Ne.symm n130)
  have P1227 := po_othI (j := 2) (v := 1) P1217 (Ne.symm n155)
  have P1228 := po_othI (j := 2) (v := 1) P1218 (Ne.symm n624)
  have P1229 := po_othI (j := 2) (v := 1) P1219 (Ne.symm n977)
  have ds1220 : mm_wI s1210 (s47.1) 2 1 = s1220 := es1220
  rw [ds1220] at P1221 G1222 E1223 P1224 P1225 P1226 P1227 P1228 P1229
  refine sw_onS (q := s98.1) (P1224.2.2.2.2.1 (8, s98.1) (by simp)) ?_
  refine sw_ar P1225.2.1 ?_
  refine sw_ib (by decide) ?_
  refine sw_let (fun s1230 es1230 => ?_)
  have P1231 := po_setI P1225 2 2
  have G1232 := gd_wI0 (j := 2) (v := 2) G1222 P1225.1
  have E1233 := ev_wI (j := 2) (v := 2) E1223 b109
  have P1234 := po_othI (j := 2) (v := 2) P1224 n107
  have P1235 := po_othI (j := 2) (v := 2) P1221 n108
  have P1236 := po_othI (j := 2) (v := 2) P1226 (Ne.symm n131)
  have P1237 := po_othI (j := 2) (v := 2) P1227 (Ne.symm n156)
  have P1238 := po_othI (j := 2) (v := 2) P1228 (Ne.symm n625)
  have P1239 := po_othI (j := 2) (v := 2) P1229 (Ne.symm n978)
  have ds1230 : mm_wI s1220 (s98.1) 2 2 = s1230 := es1230
  rw [ds1230] at P1231 G1232 E1233 P1234 P1235 P1236 P1237 P1238 P1239
  unfold fX9_init_294
  refine sw_ite (fun h => absurd h (by decide)) (fun _ => ?_)
  refine sw_sh P1234.2.1 ?_
  refine sw_onS (q := s47.1) (P1234.2.2.2.2.1 (5, s47.1) (by simp)) ?_
  refine sw_ar P1235.2.1 ?_
  refine sw_ib (by decide) ?_
  refine sw_let (fun s1240 es1240 => ?_)
  have P1241 := po_setI P1235 3 1
  have G1242 := gd_wI0 (j := 3) (v := 1) G1232 P1235.1
  have E1243 := ev_wI (j := 3) (v := 1) E1233 b56
  have P1244 := po_othI (j := 3) (v := 1) P1234 n55
  have P1245 := po_othI (j := 3) (v := 1) P1231 (Ne.symm n108)
  have P1246 := po_othI (j := 3) (v := 1) P1236 (Ne.symm n130)
  have P1247 := po_othI (j := 3) (v := 1) P1237 (Ne.symm n155)
  have P1248 := po_othI (j := 3) (v := 1) P1238 (Ne.symm n624)
  have P1249 := po_othI (j := 3) (v := 1) P1239 (Ne.symm n977)
  have ds1240 : mm_wI s1230 (s47.1) 3 1 = s1240 := es1240
  rw [ds1240] at P1241 G1242 E1243 P1244 P1245 P1246 P1247 P1248 P1249
  refine sw_onS (q := s98.1) (P1244.2.2.2.2.1 (8, s98.1) (by simp)) ?_
  refine sw_ar P1245.2.1 ?_
  refine sw_ib (by decide) ?_
  refine sw_let (fun s1250 es1250 => ?_)
  have P1251 := po_setI P1245 3 2
  have G1252 := gd_wI0 (j := 3) (v := 2) G1242 P1245.1
  have E1253 := ev_wI (j := 3) (v := 2) E1243 b109
  have P1254 := po_othI (j := 3) (v := 2) P1244 n107
  have P1255 := po_othI (j := 3) (v := 2) P1241 n108
  have P1256 := po_othI (j := 3) (v := 2) P1246 (Ne.symm n131)
  have P1257 := po_othI (j := 3) (v := 2) P1247 (Ne.symm n156)
  have P1258 := po_othI (j := 3) (v := 2) P1248 (Ne.symm n625)
  have P1259 := po_othI (j := 3) (v := 2) P1249 (Ne.symm n978)
  have ds1250 : mm_wI s1240 (s98.1) 3 2 = s1250 := es1250
  rw [ds1250] at P1251 G1252 E1253 P1254 P1255 P1256 P1257 P1258 P1259
  unfold fX9_init_294
  refine sw_ite (fun _ => ?_) (fun h => absurd (by decide) h)
  rw [show mm_fuel = 1980 + 20 from rfl]
  unfold fX9_init_321
  refine sw_ite (fun h => absurd h (by decide)) (fun _ => ?_)
  refine sw_sh P1254.2.1 ?_
  refine sw_onS (q := s119.1) (P1254.2.2.2.2.1 (9, s119.1) (by simp)) ?_
  refine sw_ar P1256.2.1 ?_
  refine sw_ib (by decide) ?_
  refine sw_let (fun s1260 es1260 => ?_)
  have P1261 := po_setI P1256 0 (-1)
  have G1262 := gd_wI0 (j := 0) (v := (-1)) G1252 P1256.1
  have E1263 := ev_wI (j := 0) (v := (-1)) E1253 b132
  have P1264 := po_othI (j := 0) (v := (-1)) P1254 n129
  have P1265 := po_othI (j := 0) (v := (-1)) P1255 n130
  have P1266 := po_othI (j := 0) (v := (-1)) P1251 n131
  have P1267 := po_othI (j := 0) (v := (-1)) P1257 (Ne.symm n157)
  have P1268 := po_othI (j := 0) (v := (-1)) P1258 (Ne.symm n626)
  have P1269 := po_othI (j := 0) (v := (-1)) P1259 (Ne.symm n979)
  have ds1260 : mm_wI s1250 (s119.1) 0 (-1) = s1260 := es1260
  rw [ds1260] at P1261 G1262 E1263 P1264 P1265 P1266 P1267 P1268 P1269
  refine sw_onS (q := s143.1) (P1264.2.2.2.2.1 (10, s143.1) (by simp)) ?_
  refine sw_ar P1267.2.1 ?_
  refine sw_ib (by decide) ?_
  refine sw_let (fun s1270 es1270 => ?_)
  have P1271 := po_setI P1267 0 (-1)
  have G1272 := gd_wI0 (j := 0) (v := (-1)) G1262 P1267.1
  have E1273 := ev_wI (j := 0) (v := (-1)) E1263 b158
  have P1274 := po_othI (j := 0) (v := (-1)) P1264 n154
  have P1275 := po_othI (j := 0) (v := (-1)) P1265 n155
  have P1276 := po_othI (j := 0) (v := (-1)) P1266 n156
  have P1277 := po_othI (j := 0) (v := (-1)) P1261 n157
  have P1278 := po_othI (j := 0) (v := (-1)) P1268 (Ne.symm n627)
  have P1279 := po_othI (j := 0) (v := (-1)) P1269 (Ne.symm n980)
  have ds1270 : mm_wI s1260 (s143.1) 0 (-1) = s1270 := es1270
  rw [ds1270] at P1271 G1272 E1273 P1274 P1275 P1276 P1277 P1278 P1279
  unfold fX9_init_321
  refine sw_ite (fun h => absurd h (by decide)) (fun _ => ?_)
  refine sw_sh P1274.2.1 ?_
  refine sw_onS (q := s119.1) (P1274.2.2.2.2.1 (9, s119.1) (by simp)) ?_
  refine sw_ar P1277.2.1 ?_
  refine sw_ib (by decide) ?_
  refine sw_let (fun s1280 es1280 => ?_)
  have P1281 := po_setI P1277 1 (-1)
  have G1282 := gd_wI0 (j := 1) (v := (-1)) G1272 P1277.1
  have E1283 := ev_wI (j := 1) (v := (-1)) E1273 b132
  have P1284 := po_othI (j := 1) (v := (-1)) P1274 n129
  have P1285 := po_othI (j := 1) (v := (-1)) P1275 n130
  have P1286 := po_othI (j := 1) (v := (-1)) P1276 n131
  have P1287 := po_othI (j := 1) (v := (-1)) P1271 (Ne.symm n157)
  have P1288 := po_othI (j := 1) (v := (-1)) P1278 (Ne.symm n626)
  have P1289 := po_othI (j := 1) (v := (-1)) P1279 (Ne.symm n979)
  have ds1280 : mm_wI s1270 (s119.1) 1 (-1) = s1280 := es1280
  rw [ds1280] at P1281 G1282 E1283 P1284 P1285 P1286 P1287 P1288 P1289
  refine sw_onS (q := s143.1) (P1284.2.2.2.2.1 (10, s143.1) (by simp)) ?_
  refine sw_ar P1287.2.1 ?_
  refine sw_ib (by decide) ?_
  refine sw_let (fun s1290 es1290 => ?_)
  have P1291 := po_setI P1287 1 (-1)
  have G1292 := gd_wI0 (j := 1) (v := (-1)) G1282 P1287.1
  have E1293 := ev_wI (j := 1) (v := (-1)) E1283 b158
  have P1294 := po_othI (j := 1) (v := (-1)) P1284 n154
  have P1295 := po_othI (j := 1) (v := (-1)) P1285 n155
  have P1296 := po_othI (j := 1) (v := (-1)) P1286 n156
  have P1297 := po_othI (j := 1) (v := (-1)) P1281 n157
  have P1298 := po_othI (j := 1) (v := (-1)) P1288 (Ne.symm n627)
  have P1299 := po_othI (j := 1) (v := (-1)) P1289 (Ne.symm n980)
  have ds1290 : mm_wI s1280 (s143.1) 1 (-1) = s1290 := es1290
  rw [ds1290] at P1291 G1292 E1293 P1294 P1295 P1296 P1297 P1298 P1299
  unfold fX9_init_321
  refine sw_ite (fun _ => ?_) (fun h => absurd (by decide) h)
  rw [show mm_fuel = 1980 + 20 from rfl]
  unfold fX9_init_348
  refine sw_ite (fun h => absurd h (by decide)) (fun _ => ?_)
  refine sw_sh P1294.2.1 ?_
  refine sw_onS (q := s611.1) (P1294.2.2.2.2.1 (27, s611.1) (by simp)) ?_
  refine sw_ar P1298.2.1 ?_
  refine sw_ib (by decide) ?_
  refine sw_let (fun s1300 es1300 => ?_)
  have P1301 := po_setI P1298 0 (-1)
  have G1302 := gd_wI0 (j := 0) (v := (-1)) G1292 P1298.1
  have E1303 := ev_wI (j := 0) (v := (-1)) E1293 b628
  have P1304 := po_othI (j := 0) (v := (-1)) P1294 n623
  have P1305 := po_othI (j := 0) (v := (-1)) P1295 n624
  have P1306 := po_othI (j := 0) (v := (-1)) P1296 n625
  have P1307 := po_othI (j := 0) (v := (-1)) P1297 n626
  have P1308 := po_othI (j := 0) (v := (-1)) P1291 n627
  have P1309 := po_othI (j := 0) (v := (-1)) P1299 (Ne.symm n981)
  have ds1300 : mm_wI s1290 (s611.1) 0 (-1) = s1300 := es1300
  rw [ds1300] at P1301 G1302 E1303 P1304 P1305 P1306 P1307 P1308 P1309
  unfold fX9_init_348
  refine sw_ite (fun h => absurd h (by decide)) (fun _ => ?_)
  refine sw_sh P1304.2.1 ?_
  refine sw_onS (q := s611.1) (P1304.2.2.2.2.1 (27, s611.1) (by simp)) ?_
  refine sw_ar P1301.2.1 ?_
  refine sw_ib (by decide) ?_
  refine sw_let (fun s1310 es1310 => ?_)
  have P1311 := po_setI P1301 1 (-1)
  have G1312 := gd_wI0 (j := 1) (v := (-1)) G1302 P1301.1
  have E1313 := ev_wI (j := 1) (v := (-1)) E1303 b628
  have P1314 := po_othI (j := 1) (v := (-1)) P1304 n623
  have P1315 := po_othI (j := 1) (v := (-1)) P1305 n624
  have P1316 := po_othI (j := 1) (v := (-1)) P1306 n625
  have P1317 := po_othI (j := 1) (v := (-1)) P1307 n626
  have P1318 := po_othI (j := 1) (v := (-1)) P1308 n627
  have P1319 := po_othI (j := 1) (v := (-1)) P1309 (Ne.symm n981)
  have ds1310 : mm_wI s1300 (s611.1) 1 (-1) = s1310 := es1310
  rw [ds1310] at P1311 G1312 E1313 P1314 P1315 P1316 P1317 P1318 P1319
  unfold fX9_init_348
  refine sw_ite (fun h => absurd h (by decide)) (fun _ => ?_)
  refine sw_sh P1314.2.1 ?_
  refine sw_onS (q := s611.1) (P1314.2.2.2.2.1 (27, s611.1) (by simp)) ?_
  refine sw_ar P1311.2.1 ?_
  refine sw_ib (by decide) ?_
  refine sw_let (fun s1320 es1320 => ?_)
  have P1321 := po_setI P1311 2 (-1)
  have G1322 := gd_wI0 (j := 2) (v := (-1)) G1312 P1311.1
  have E1323 := ev_wI (j := 2) (v := (-1)) E1313 b628
  have P1324 := po_othI (j := 2) (v := (-1)) P1314 n623
  have P1325 := po_othI (j := 2) (v := (-1)) P1315 n624
  have P1326 := po_othI (j := 2) (v := (-1)) P1316 n625
  have P1327 := po_othI (j := 2) (v := (-1)) P1317 n626
  have P1328 := po_othI (j := 2) (v := (-1)) P1318 n627
  have P1329 := po_othI (j := 2) (v := (-1)) P1319 (Ne.symm n981)
  have ds1320 : mm_wI s1310 (s611.1) 2 (-1) = s1320 := es1320
  rw [ds1320] at P1321 G1322 E1323 P1324 P1325 P1326 P1327 P1328 P1329
  unfold fX9_init_348
  refine sw_ite (fun h => absurd h (by decide)) (fun _ => ?_)
  refine sw_sh P1324.2.1 ?_
  refine sw_onS (q := s611.1) (P1324.2.2.2.2.1 (27, s611.1) (by simp)) ?_
  refine sw_ar P1321.2.1 ?_
  refine sw_ib (by decide) ?_
  refine sw_let (fun s1330 es1330 => ?_)
  have P1331 := po_setI P1321 3 (-1)
  have G1332 := gd_wI0 (j := 3) (v := (-1)) G1322 P1321.1
  have E1333 := ev_wI (j := 3) (v := (-1)) E1323 b628
  have P1334 := po_othI (j := 3) (v := (-1)) P1324 n623
  have P1335 := po_othI (j := 3) (v := (-1)) P1325 n624
  have P1336 := po_othI (j := 3) (v := (-1)) P1326 n625
  have P1337 := po_othI (j := 3) (v := (-1)) P1327 n626
  have P1338 := po_othI (j := 3) (v := (-1)) P1328 n627
  have P1339 := po_othI (j := 3) (v := (-1)) P1329 (Ne.symm n981)
  have ds1330 : mm_wI s1320 (s611.1) 3 (-1) = s1330 := es1330
  rw [ds1330] at P1331 G1332 E1333 P1334 P1335 P1336 P1337 P1338 P1339
  unfold fX9_init_348
  refine sw_ite (fun h => absurd h (by decide)) (fun _ => ?_)
  refine sw_sh P1334.2.1 ?_
  refine sw_onS (q := s611.1) (P1334.2.2.2.2.1 (27, s611.1) (by simp)) ?_
  refine sw_ar P1331.2.1 ?_
  refine sw_ib (by decide) ?_
  refine sw_let (fun s1340 es1340 => ?_)
  have P1341 := po_setI P1331 4 (-1)
  have G1342 := gd_wI0 (j := 4) (v := (-1)) G1332 P1331.1
  have E1343 := ev_wI (j := 4) (v := (-1)) E1333 b628
  have P1344 := po_othI (j := 4) (v := (-1)) P1334 n623
  have P1345 := po_othI (j := 4) (v := (-1)) P1335 n624
  have P1346 := po_othI (j := 4) (v := (-1)) P1336 n625
  have P1347 := po_othI (j := 4) (v := (-1)) P1337 n626
  have P1348 := po_othI (j := 4) (v := (-1)) P1338 n627
  have P1349 := po_othI (j := 4) (v := (-1)) P1339 (Ne.symm n981)
  have ds1340 : mm_wI s1330 (s611.1) 4 (-1) = s1340 := es1340
  rw [ds1340] at P1341 G1342 E1343 P1344 P1345 P1346 P1347 P1348 P1349
  unfold fX9_init_348
  refine sw_ite (fun h => absurd h (by decide)) (fun _ => ?_)
  refine sw_sh P1344.2.1 ?_
  refine sw_onS (q := s611.1) (P1344.2.2.2.2.1 (27, s611.1) (by simp)) ?_
  refine sw_ar P1341.2.1 ?_
  refine sw_ib (by decide) ?_
  refine sw_let (fun s1350 es1350 => ?_)
  have P1351 := po_setI P1341 5 (-1)
  have G1352 := gd_wI0 (j := 5) (v := (-1)) G1342 P1341.1
  have E1353 := ev_wI (j := 5) (v := (-1)) E1343 b628
  have P1354 := po_othI (j := 5) (v := (-1)) P1344 n623
  have P1355 := po_othI (j := 5) (v := (-1)) P1345 n624
  have P1356 := po_othI (j := 5) (v := (-1)) P1346 n625
  have P1357 := po_othI (j := 5) (v := (-1)) P1347 n626
  have P1358 := po_othI (j := 5) (v := (-1)) P1348 n627
  have P1359 := po_othI (j := 5) (v := (-1)) P1349 (Ne.symm n981)
  have ds1350 : mm_wI s1340 (s611.1) 5 (-1) = s1350 := es1350
  rw [ds1350] at P1351 G1352 E1353 P1354 P1355 P1356 P1357 P1358 P1359
  unfold fX9_init_348
  refine sw_ite (fun h => absurd h (by decide)) (fun _ => ?_)
  refine sw_sh P1354.2.1 ?_
  refine sw_onS (q := s611.1) (P1354.2.2.2.2.1 (27, s611.1) (by simp)) ?_
  refine sw_ar P1351.2.1 ?_
  refine sw_ib (by decide) ?_
  refine sw_let (fun s1360 es1360 => ?_)
  have P1361 := po_setI P1351 6 (-1)
  have G1362 := gd_wI0 (j := 6) (v := (-1)) G1352 P1351.1
  have E1363 := ev_wI (j := 6) (v := (-1)) E1353 b628
  have P1364 := po_othI (j := 6) (v := (-1)) P1354 n623
  have P1365 := po_othI (j := 6) (v := (-1)) P1355 n624
  have P1366 := po_othI (j := 6) (v := (-1)) P1356 n625
  have P1367 := po_othI (j := 6) (v := (-1)) P1357 n626
  have P1368 := po_othI (j := 6) (v := (-1)) P1358 n627
  have P1369 := po_othI (j := 6) (v := (-1)) P1359 (Ne.symm n981)
  have ds1360 : mm_wI s1350 (s611.1) 6 (-1) = s1360 := es1360
  rw [ds1360] at P1361 G1362 E1363 P1364 P1365 P1366 P1367 P1368 P1369
  unfold fX9_init_348
  refine sw_ite (fun h => absurd h (by decide)) (fun _ => ?_)
  refine sw_sh P1364.2.1 ?_
  refine sw_onS (q := s611.1) (P1364.2.2.2.2.1 (27, s611.1) (by simp)) ?_
  refine sw_ar P1361.2.1 ?_
  refine sw_ib (by decide) ?_
  refine sw_let (fun s1370 es1370 => ?_)
  have P1371 := po_setI P1361 7 (-1)
  have G1372 := gd_wI0 (j := 7) (v := (-1)) G1362 P1361.1
  have E1373 := ev_wI (j := 7) (v := (-1)) E1363 b628
  have P1374 := po_othI (j := 7) (v := (-1)) P1364 n623
  have P1375 := po_othI (j := 7) (v := (-1)) P1365 n624
  have P1376 := po_othI (j := 7) (v := (-1)) P1366 n625
  have P1377 := po_othI (j := 7) (v := (-1)) P1367 n626
  have P1378 := po_othI (j := 7) (v := (-1)) P1368 n627
  have P1379 := po_othI (j := 7) (v := (-1)) P1369 (Ne.symm n981)
  have ds1370 : mm_wI s1360 (s611.1) 7 (-1) = s1370 := es1370
  rw [ds1370] at P1371 G1372 E1373 P1374 P1375 P1376 P1377 P1378 P1379
  unfold fX9_init_348
  refine sw_ite (fun h => absurd h (by decide)) (fun _ => ?_)
  refine sw_sh P1374.2.1 ?_
  refine sw_onS (q := s611.1) (P1374.2.2.2.2.1 (27, s611.1) (by simp)) ?_
  refine sw_ar P1371.2.1 ?_
  refine sw_ib (by decide) ?_
  refine sw_let (fun s1380 es1380 => ?_)
  have P1381 := po_setI P1371 8 (-1)
  have G1382 := gd_wI0 (j := 8) (v := (-1)) G1372 P1371.1
  have E1383 := ev_wI (j := 8) (v := (-1)) E1373 b628
  have P1384 := po_othI (j := 8) (v := (-1)) P1374 n623
  have P1385 := po_othI (j := 8) (v := (-1)) P1375 n624
  have P1386 := po_othI (j := 8) (v := (-1)) P1376 n625
  have P1387 := po_othI (j := 8) (v := (-1)) P1377 n626
  have P1388 := po_othI (j := 8) (v := (-1)) P1378 n627
  have P1389 := po_othI (j := 8) (v := (-1)) P1379 (Ne.symm n981)
  have ds1380 : mm_wI s1370 (s611.1) 8 (-1) = s1380 := es1380
  rw [ds1380] at P1381 G1382 E1383 P1384 P1385 P1386 P1387 P1388 P1389
  unfold fX9_init_348
  refine sw_ite (fun _ => ?_) (fun h => absurd (by decide) h)
  rw [show mm_fuel = 1980 + 20 from rfl]
  unfold fX9_init_369
  refine sw_ite (fun h => absurd h (by decide)) (fun _ => ?_)
  refine sw_sh P1384.2.1 ?_
  refine sw_onS (q := s963.1) (P1384.2.2.2.2.1 (41, s963.1) (by simp)) ?_
  refine sw_ar P1389.2.1 ?_
  refine sw_ib (by decide) ?_
  refine sw_let (fun s1390 es1390 => ?_)
  have P1391 := po_setI P1389 0 (-1)
  have G1392 := gd_wI0 (j := 0) (v := (-1)) G1382 P1389.1
  have E1393 := ev_wI (j := 0) (v := (-1)) E1383 b982
  have P1394 := po_othI (j := 0) (v := (-1)) P1384 n976
  have P1395 := po_othI (j := 0) (v := (-1)) P1385 n977
  have P1396 := po_othI (j := 0) (v := (-1)) P1386 n978
  have P1397 := po_othI (j := 0) (v := (-1)) P1387 n979
  have P1398 := po_othI (j := 0) (v := (-1)) P1388 n980
  have P1399 := po_othI (j := 0) (v := (-1)) P1381 n981
  have ds1390 : mm_wI s1380 (s963.1) 0 (-1) = s1390 := es1390
  rw [ds1390] at P1391 G1392 E1393 P1394 P1395 P1396 P1397 P1398 P1399
  unfold fX9_init_369
  refine sw_ite (fun h => absurd h (by decide)) (fun _ => ?_)
  refine sw_sh P1394.2.1 ?_
  refine sw_onS (q := s963.1) (P1394.2.2.2.2.1 (41, s963.1) (by simp)) ?_
  refine sw_ar P1391.2.1 ?_
  refine sw_ib (by decide) ?_
  refine sw_let (fun s1400 es1400 => ?_)
  have P1401 := po_setI P1391 1 (-1)
  have G1402 := gd_wI0 (j := 1) (v := (-1)) G1392 P1391.1
  have E1403 := ev_wI (j := 1) (v := (-1)) E1393 b982
  have P1404 := po_othI (j := 1) (v := (-1)) P1394 n976
  have P1405 := po_othI (j := 1) (v := (-1)) P1395 n977
  have P1406 := po_othI (j := 1) (v := (-1)) P1396 n978
  have P1407 := po_othI (j := 1) (v := (-1)) P1397 n979
  have P1408 := po_othI (j := 1) (v := (-1)) P1398 n980
  have P1409 := po_othI (j := 1) (v := (-1)) P1399 n981
  have ds1400 : mm_wI s1390 (s963.1) 1 (-1) = s1400 := es1400
  rw [ds1400] at P1401 G1402 E1403 P1404 P1405 P1406 P1407 P1408 P1409
  unfold fX9_init_369
  refine sw_ite (fun h => absurd h (by decide)) (fun _ => ?_)
  refine sw_sh P1404.2.1 ?_
  refine sw_onS (q := s963.1) (P1404.2.2.2.2.1 (41, s963.1) (by simp)) ?_
  refine sw_ar P1401.2.1 ?_
  refine sw_ib (by decide) ?_
  refine sw_let (fun s1410 es1410 => ?_)
  have P1411 := po_setI P1401 2 (-1)
  have G1412 := gd_wI0 (j := 2) (v := (-1)) G1402 P1401.1
  have E1413 := ev_wI (j := 2) (v := (-1)) E1403 b982
  have P1414 := po_othI (j := 2) (v := (-1)) P1404 n976
  have P1415 := po_othI (j := 2) (v := (-1)) P1405 n977
  have P1416 := po_othI (j := 2) (v := (-1)) P1406 n978
  have P1417 := po_othI (j := 2) (v := (-1)) P1407 n979
  have P1418 := po_othI (j := 2) (v := (-1)) P1408 n980
  have P1419 := po_othI (j := 2) (v := (-1)) P1409 n981
  have ds1410 : mm_wI s1400 (s963.1) 2 (-1) = s1410 := es1410
  rw [ds1410] at P1411 G1412 E1413 P1414 P1415 P1416 P1417 P1418 P1419
  unfold fX9_init_369
  refine sw_ite (fun h => absurd h (by decide)) (fun _ => ?_)
  refine sw_sh P1414.2.1 ?_
  refine sw_onS (q := s963.1) (P1414.2.2.2.2.1 (41, s963.1) (by simp)) ?_
  refine sw_ar P1411.2.1 ?_
  refine sw_ib (by decide) ?_
  refine sw_let (fun s1420 es1420 => ?_)
  have P1421 := po_setI P1411 3 (-1)
  have G1422 := gd_wI0 (j := 3) (v := (-1)) G1412 P1411.1
  have E1423 := ev_wI (j := 3) (v := (-1)) E1413 b982
  have P1424 := po_othI (j := 3) (v := (-1)) P1414 n976
  have P1425 := po_othI (j := 3) (v := (-1)) P1415 n977
  have P1426 := po_othI (j := 3) (v := (-1)) P1416 n978
  have P1427 := po_othI (j := 3) (v := (-1)) P1417 n979
  have P1428 := po_othI (j := 3) (v := (-1)) P1418 n980
  have P1429 := po_othI (j := 3) (v := (-1)) P1419 n981
  have ds1420 : mm_wI s1410 (s963.1) 3 (-1) = s1420 := es1420
  rw [ds1420] at P1421 G1422 E1423 P1424 P1425 P1426 P1427 P1428 P1429
  unfold fX9_init_369
  refine sw_ite (fun h => absurd h (by decide)) (fun _ => ?_)
  refine sw_sh P1424.2.1 ?_
  refine sw_onS (q := s963.1) (P1424.2.2.2.2.1 (41, s963.1) (by simp)) ?_
  refine sw_ar P1421.2.1 ?_
  refine sw_ib (by decide) ?_
  refine sw_let (fun s1430 es1430 => ?_)
  have P1431 := po_setI P1421 4 (-1)
  have G1432 := gd_wI0 (j := 4) (v := (-1)) G1422 P1421.1
  have E1433 := ev_wI (j := 4) (v := (-1)) E1423 b982
  have P1434 := po_othI (j := 4) (v := (-1)) P1424 n976
  have P1435 := po_othI (j := 4) (v := (-1)) P1425 n977
  have P1436 := po_othI (j := 4) (v := (-1)) P1426 n978
  have P1437 := po_othI (j := 4) (v := (-1)) P1427 n979
  have P1438 := po_othI (j := 4) (v := (-1)) P1428 n980
  have P1439 := po_othI (j := 4) (v := (-1)) P1429 n981
  have ds1430 : mm_wI s1420 (s963.1) 4 (-1) = s1430 := es1430
  rw [ds1430] at P1431 G1432 E1433 P1434 P1435 P1436 P1437 P1438 P1439
  unfold fX9_init_369
  refine sw_ite (fun _ => ?_) (fun h => absurd (by decide) h)
  obtain ⟨T1440, G1441, x1442, t1443, m1444⟩ : ∃ T', sGood F T' s1430 ∧ sTX T1129 T' ∧ T' (s47.1) = some 55 ∧ ∀ b, b ≠ s47.1 → T' b = T1129 b := ⟨kup T1129 (s47.1) 55, gd_type (κ := 55) G1432 P1435 ⟨fun sh e => by cases e; rfl, fun e => by cases e⟩ (fun k κ' e => by cases e) (Or.inl rfl) (fun j => by
    intro lo hi e
    match j, e with
    | 0, e => cases e; decide
    | 1, e => cases e; decide
    | 2, e => cases e; decide
    | 3, e => cases e; decide
    | k + 4, e => have e2 : (if k + 4 < 4 then some ((1 : Int), (15 : Int)) else none) = some (lo, hi) := e; rw [if_neg (by omega)] at e2; cases e2) (fun j h => by
    match j, h with
    | 0, h => rfl
    | 1, h => rfl
    | 2, h => rfl
    | 3, h => rfl
    | k + 4, h => omega), kup_tx P1435.1, kup_self, fun b hb => if_neg hb⟩
  have E1445 : sEV T σ T1440 s1430 := ⟨tx_trans E1433.1 x1442, E1433.2.1, fun b hb => ⟨(m1444 b (Nat.ne_of_lt (Nat.lt_of_lt_of_le hb b56))).trans (E1433.2.2 b hb).1, (E1433.2.2 b hb).2⟩⟩
  have P1446 : sPO T1440 s1430 _ _ _ _ := ⟨(m1444 _ n55).trans P1434.1, P1434.2⟩
  have P1447 : sPO T1440 s1430 _ _ _ _ := ⟨(m1444 _ (Ne.symm n108)).trans P1436.1, P1436.2⟩
  have P1448 : sPO T1440 s1430 _ _ _ _ := ⟨(m1444 _ (Ne.symm n130)).trans P1437.1, P1437.2⟩
  have P1449 : sPO T1440 s1430 _ _ _ _ := ⟨(m1444 _ (Ne.symm n155)).trans P1438.1, P1438.2⟩
  have P1450 : sPO T1440 s1430 _ _ _ _ := ⟨(m1444 _ (Ne.symm n624)).trans P1439.1, P1439.2⟩
  have P1451 : sPO T1440 s1430 _ _ _ _ := ⟨(m1444 _ (Ne.symm n977)).trans P1431.1, P1431.2⟩
  have t1452 := x1442 _ _ t1140
  have t1453 := x1442 _ _ t1141
  have t1454 := x1442 _ _ t1142
  have t1455 := x1442 _ _ t1143
  have t1456 := x1442 _ _ t1144
  have t1457 := x1442 _ _ t1145
  have t1458 := x1442 _ _ t1146
  have t1459 := x1442 _ _ t1147
  have t1460 := x1442 _ _ t1148
  have t1461 := x1442 _ _ t1149
  have t1462 := x1442 _ _ t1150
  have t1463 := x1442 _ _ t1151
  have t1464 := x1442 _ _ t1152
  have t1465 := x1442 _ _ t1153
  have t1466 := x1442 _ _ t1154
  have t1467 := x1442 _ _ t1155
  have t1468 := x1442 _ _ t1156
  have t1469 := x1442 _ _ t1157
  have t1470 := x1442 _ _ t1158
  have t1471 := x1442 _ _ t1159
  have t1472 := x1442 _ _ t1160
  have t1473 := x1442 _ _ t1161
  have t1474 := x1442 _ _ t1162
  have t1475 := x1442 _ _ t1163
  have t1476 := x1442 _ _ t1164
  have t1477 := x1442 _ _ t1165
  have t1478 := x1442 _ _ t1166
  have t1479 := x1442 _ _ t1167
  have t1480 := x1442 _ _ t1168
  have t1481 := x1442 _ _ t1132
  obtain ⟨T1482, G1483, x1484, t1485, m1486⟩ : ∃ T', sGood F T' s1430 ∧ sTX T1440 T' ∧ T' (s98.1) = some 58 ∧ ∀ b, b ≠ s98.1 → T' b = T1440 b := ⟨kup T1440 (s98.1) 58, gd_type (κ := 58) G1441 P1447 ⟨fun sh e => by cases e; rfl, fun e => by cases e⟩ (fun k κ' e => by cases e) (Or.inl rfl) (fun j => by
    intro lo hi e
    match j, e with
    | 0, e => cases e; decide
    | 1, e => cases e; decide
    | 2, e => cases e; decide
    | 3, e => cases e; decide
    | k + 4, e => have e2 : (if k + 4 < 4 then some ((2 : Int), (4 : Int)) else none) = some (lo, hi) := e; rw [if_neg (by omega)] at e2; cases e2) (fun j h => by
    match j, h with
    | 0, h => rfl
    | 1, h => rfl
    | 2, h => rfl
    | 3, h => rfl
    | k + 4, h => omega), kup_tx P1447.1, kup_self, fun b hb => if_neg hb⟩
  have E1487 : sEV T σ T1482 s1430 := ⟨tx_trans E1445.1 x1484, E1445.2.1, fun b hb => ⟨(m1486 b (Nat.ne_of_lt (Nat.lt_of_lt_of_le hb b109))).trans (E1445.2.2 b hb).1, (E1445.2.2 b hb).2⟩⟩
  have P1488 : sPO T1482 s1430 _ _ _ _ := ⟨(m1486 _ n107).trans P1446.1, P1446.2⟩
  have P1489 : sPO T1482 s1430 _ _ _ _ := ⟨(m1486 _ (Ne.symm n131)).trans P1448.1, P1448.2⟩
  have P1490 : sPO T1482 s1430 _ _ _ _ := ⟨(m1486 _ (Ne.symm n156)).trans P1449.1, P1449.2⟩
  have P1491 : sPO T1482 s1430 _ _ _ _ := ⟨(m1486 _ (Ne.symm n625)).trans P1450.1, P1450.2⟩
  have P1492 : sPO T1482 s1430 _ _ _ _ := ⟨(m1486 _ (Ne.symm n978)).trans P1451.1, P1451.2⟩
  have t1493 := x1484 _ _ t1452
  have t1494 := x1484 _ _ t1453
  have t1495 := x1484 _ _ t1454
  have t1496 := x1484 _ _ t1455
  have t1497 := x1484 _ _ t1456
  have t1498 := x1484 _ _ t1457
  have t1499 := x1484 _ _ t1458
  have t1500 := x1484 _ _ t1459
  have t1501 := x1484 _ _ t1460
  have t1502 := x1484 _ _ t1461
  have t1503 := x1484 _ _ t1462
  have t1504 := x1484 _ _ t1463
  have t1505 := x1484 _ _ t1464
  have t1506 := x1484 _ _ t1465
  have t1507 := x1484 _ _ t1466
  have t1508 := x1484 _ _ t1467
  have t1509 := x1484 _ _ t1468
  have t1510 := x1484 _ _ t1469
  have t1511 := x1484 _ _ t1470
  have t1512 := x1484 _ _ t1471
  have t1513 := x1484 _ _ t1472
  have t1514 := x1484 _ _ t1473
  have t1515 := x1484 _ _ t1474
  have t1516 := x1484 _ _ t1475
  have t1517 := x1484 _ _ t1476
  have t1518 := x1484 _ _ t1477
  have t1519 := x1484 _ _ t1478
  have t1520 := x1484 _ _ t1479
  have t1521 := x1484 _ _ t1480
  have t1522 := x1484 _ _ t1481
  have t1523 := x1484 _ _ t1443
  obtain ⟨T1524, G1525, x1526, t1527, m1528⟩ : ∃ T', sGood F T' s1430 ∧ sTX T1482 T' ∧ T' (s119.1) = some 59 ∧ ∀ b, b ≠ s119.1 → T' b = T1482 b := ⟨kup T1482 (s119.1) 59, gd_type (κ := 59) G1483 P1489 ⟨fun sh e => by cases e; rfl, fun e => by cases e⟩ (fun k κ' e => by cases e) (Or.inl rfl) (fun j => kr_s (lo := -1) (hi := 3) rfl (by match j with | 0 => decide | 1 => decide | k + 2 => show _ ∧ _; rw [if_neg (by omega), if_neg (by omega)]; decide)) (fun j h => by
    match j, h with
    | 0, h => rfl
    | 1, h => rfl
    | k + 2, h => omega), kup_tx P1489.1, kup_self, fun b hb => if_neg hb⟩
  have E1529 : sEV T σ T1524 s1430 := ⟨tx_trans E1487.1 x1526, E1487.2.1, fun b hb => ⟨(m1528 b (Nat.ne_of_lt (Nat.lt_of_lt_of_le hb b132))).trans (E1487.2.2 b hb).1, (E1487.2.2 b hb).2⟩⟩
  have P1530 : sPO T1524 s1430 _ _ _ _ := ⟨(m1528 _ n129).trans P1488.1, P1488.2⟩
  have P1531 : sPO T1524 s1430 _ _ _ _ := ⟨(m1528 _ (Ne.symm n157)).trans P1490.1, P1490.2⟩
  have P1532 : sPO T1524 s1430 _ _ _ _ := ⟨(m1528 _ (Ne.symm n626)).trans P1491.1, P1491.2⟩
  have P1533 : sPO T1524 s1430 _ _ _ _ := ⟨(m1528 _ (Ne.symm n979)).trans P1492.1, P1492.2⟩
  have t1534 := x1526 _ _ t1493
  have t1535 := x1526 _ _ t1494
  have t1536 := x1526 _ _ t1495
  have t1537 := x1526 _ _ t1496
  have t1538 := x1526 _ _ t1497
  have t1539 := x1526 _ _ t1498
  have t1540 := x1526 _ _ t1499
  have t1541 := x1526 _ _ t1500
  have t1542 := x1526 _ _ t1501
  have t1543 := x1526 _ _ t1502
  have t1544 := x1526 _ _ t1503
  have t1545 := x1526 _ _ t1504
  have t1546 := x1526 _ _ t1505
  have t1547 := x1526 _ _ t1506
  have t1548 := x1526 _ _ t1507
  have t1549 := x1526 _ _ t1508
  have t1550 := x1526 _ _ t1509
  have t1551 := x1526 _ _ t1510
  have t1552 := x1526 _ _ t1511
  have t1553 := x1526 _ _ t1512
  have t1554 := x1526 _ _ t1513
  have t1555 := x1526 _ _ t1514
  have t1556 := x1526 _ _ t1515
  have t1557 := x1526 _ _ t1516
  have t1558 := x1526 _ _ t1517
  have t1559 := x1526 _ _ t1518
  have t1560 := x1526 _ _ t1519
  have t1561 := x1526 _ _ t1520
  have t1562 := x1526 _ _ t1521
  have t1563 := x1526 _ _ t1522
  have t1564 := x1526 _ _ t1523
  have t1565 := x1526 _ _ t1485
  obtain ⟨T1566, G1567, x1568, t1569, m1570⟩ : ∃ T', sGood F T' s1430 ∧ sTX T1524 T' ∧ T' (s143.1) = some 60 ∧ ∀ b, b ≠ s143.1 → T' b = T1524 b := ⟨kup T1524 (s143.1) 60, gd_type (κ := 60) G1525 P1531 ⟨fun sh e => by cases e; rfl, fun e => by cases e⟩ (fun k κ' e => by cases e) (Or.inl rfl) (fun j => kr_n rfl) (fun j h => by
    match j, h with
    | 0, h => rfl
    | 1, h => rfl
    | k + 2, h => omega), kup_tx P1531.1, kup_self, fun b hb => if_neg hb⟩
  have E1571 : sEV T σ T1566 s1430 := ⟨tx_trans E1529.1 x1568, E1529.2.1, fun b hb => ⟨(m1570 b (Nat.ne_of_lt (Nat.lt_of_lt_of_le hb b158))).trans (E1529.2.2 b hb).1, (E1529.2.2 b hb).2⟩⟩
  have P1572 : sPO T1566 s1430 _ _ _ _ := ⟨(m1570 _ n154).trans P1530.1, P1530.2⟩
  have P1573 : sPO T1566 s1430 _ _ _ _ := ⟨(m1570 _ (Ne.symm n627)).trans P1532.1, P1532.2⟩
  have P1574 : sPO T1566 s1430 _ _ _ _ := ⟨(m1570 _ (Ne.symm n980)).trans P1533.1, P1533.2⟩
  have t1575 := x1568 _ _ t1534
  have t1576 := x1568 _ _ t1535
  have t1577 := x1568 _ _ t1536
  have t1578 := x1568 _ _ t1537
  have t1579 := x1568 _ _ t1538
  have t1580 := x1568 _ _ t1539
  have t1581 := x1568 _ _ t1540
  have t1582 := x1568 _ _ t1541
  have t1583 := x1568 _ _ t1542
  have t1584 := x1568 _ _ t1543
  have t1585 := x1568 _ _ t1544
  have t1586 := x1568 _ _ t1545
  have t1587 := x1568 _ _ t1546
  have t1588 := x1568 _ _ t1547
  have t1589 := x1568 _ _ t1548
  have t1590 := x1568 _ _ t1549
  have t1591 := x1568 _ _ t1550
  have t1592 := x1568 _ _ t1551
  have t1593 := x1568 _ _ t1552
  have t1594 := x1568 _ _ t1553
  have t1595 := x1568 _ _ t1554
  have t1596 := x1568 _ _ t1555
  have t1597 := x1568 _ _ t1556
  have t1598 := x1568 _ _ t1557
  have t1599 := x1568 _ _ t1558
  have t1600 := x1568 _ _ t1559
  have t1601 := x1568 _ _ t1560
  have t1602 := x1568 _ _ t1561
  have t1603 := x1568 _ _ t1562
  have t1604 := x1568 _ _ t1563
  have t1605 := x1568 _ _ t1564
  have t1606 := x1568 _ _ t1565
  have t1607 := x1568 _ _ t1527
  obtain ⟨T1608, G1609, x1610, t1611, m1612⟩ : ∃ T', sGood F T' s1430 ∧ sTX T1566 T' ∧ T' (s611.1) = some 77 ∧ ∀ b, b ≠ s611.1 → T' b = T1566 b := ⟨kup T1566 (s611.1) 77, gd_type (κ := 77) G1567 P1573 ⟨fun sh e => by cases e; rfl, fun e => by cases e⟩ (fun k κ' e => by cases e) (Or.inl rfl) (fun j => kr_s (lo := -1) (hi := 19) rfl (by match j with | 0 => decide | 1 => decide | 2 => decide | 3 => decide | 4 => decide | 5 => decide | 6 => decide | 7 => decide | 8 => decide | k + 9 => show _ ∧ _; rw [if_neg (by omega), if_neg (by omega), if_neg (by omega), if_neg (by omega), if_neg (by omega), if_neg (by omega), if_neg (by omega), if_neg (by omega), if_neg (by omega)]; decide)) (fun j h => by
    match j, h with
    | 0, h => rfl
    | 1, h => rfl
    | 2, h => rfl
    | 3, h => rfl
    | 4, h => rfl
    | 5, h => rfl
    | 6, h => rfl
    | 7, h => rfl
    | 8, h => rfl
    | k + 9, h => omega), kup_tx P1573.1, kup_self, fun b hb => if_neg hb⟩
  have E1613 : sEV T σ T1608 s1430 := ⟨tx_trans E1571.1 x1610, E1571.2.1, fun b hb => ⟨(m1612 b (Nat.ne_of_lt (Nat.lt_of_lt_of_le hb b628))).trans (E1571.2.2 b hb).1, (E1571.2.2 b hb).2⟩⟩
  have P1614 : sPO T1608 s1430 _ _ _ _ := ⟨(m1612 _ n623).trans P1572.1, P1572.2⟩
  have P1615 : sPO T1608 s1430 _ _ _ _ := ⟨(m1612 _ (Ne.symm n981)).trans P1574.1, P1574.2⟩
  have t1616 := x1610 _ _ t1575
  have t1617 := x1610 _ _ t1576
  have t1618 := x1610 _ _ t1577
  have t1619 := x1610 _ _ t1578
  have t1620 := x1610 _ _ t1579
  have t1621 := x1610 _ _ t1580
  have t1622 := x1610 _ _ t1581
  have t1623 := x1610 _ _ t1582
  have t1624 := x1610 _ _ t1583
  have t1625 := x1610 _ _ t1584
  have t1626 := x1610 _ _ t1585
  have t1627 := x1610 _ _ t1586
  have t1628 := x1610 _ _ t1587
  have t1629 := x1610 _ _ t1588
  have t1630 := x1610 _ _ t1589
  have t1631 := x1610 _ _ t1590
  have t1632 := x1610 _ _ t1591
  have t1633 := x1610 _ _ t1592
  have t1634 := x1610 _ _ t1593
  have t1635 := x1610 _ _ t1594
  have t1636 := x1610 _ _ t1595
  have t1637 := x1610 _ _ t1596
  have t1638 := x1610 _ _ t1597
  have t1639 := x1610 _ _ t1598
  have t1640 := x1610 _ _ t1599
  have t1641 := x1610 _ _ t1600
  have t1642 := x1610 _ _ t1601
  have t1643 := x1610 _ _ t1602
  have t1644 := x1610 _ _ t1603
  have t1645 := x1610 _ _ t1604
  have t1646 := x1610 _ _ t1605
  have t1647 := x1610 _ _ t1606
  have t1648 := x1610 _ _ t1607
  have t1649 := x1610 _ _ t1569
  obtain ⟨T1650, G1651, x1652, t1653, m1654⟩ : ∃ T', sGood F T' s1430 ∧ sTX T1608 T' ∧ T' (s963.1) = some 91 ∧ ∀ b, b ≠ s963.1 → T' b = T1608 b := ⟨kup T1608 (s963.1) 91, gd_type (κ := 91) G1609 P1615 ⟨fun sh e => by cases e; rfl, fun e => by cases e⟩ (fun k κ' e => by cases e) (Or.inl rfl) (fun j => kr_s (lo := -1) (hi := 59) rfl (by match j with | 0 => decide | 1 => decide | 2 => decide | 3 => decide | 4 => decide | k + 5 => show _ ∧ _; rw [if_neg (by omega), if_neg (by omega), if_neg (by omega), if_neg (by omega), if_neg (by omega)]; decide)) (fun j h => by
    match j, h with
    | 0, h => rfl
    | 1, h => rfl
    | 2, h => rfl
    | 3, h => rfl
    | 4, h => rfl
    | k + 5, h => omega), kup_tx P1615.1, kup_self, fun b hb => if_neg hb⟩
  have E1655 : sEV T σ T1650 s1430 := ⟨tx_trans E1613.1 x1652, E1613.2.1, fun b hb => ⟨(m1654 b (Nat.ne_of_lt (Nat.lt_of_lt_of_le hb b982))).trans (E1613.2.2 b hb).1, (E1613.2.2 b hb).2⟩⟩
  have P1656 : sPO T1650 s1430 _ _ _ _ := ⟨(m1654 _ n976).trans P1614.1, P1614.2⟩
  have t1657 := x1652 _ _ t1616
  have t1658 := x1652 _ _ t1617
  have t1659 := x1652 _ _ t1618
  have t1660 := x1652 _ _ t1619
  have t1661 := x1652 _ _ t1620
  have t1662 := x1652 _ _ t1621
  have t1663 := x1652 _ _ t1622
  have t1664 := x1652 _ _ t1623
  have t1665 := x1652 _ _ t1624
  have t1666 := x1652 _ _ t1625
  have t1667 := x1652 _ _ t1626
  have t1668 := x1652 _ _ t1627
  have t1669 := x1652 _ _ t1628
  have t1670 := x1652 _ _ t1629
  have t1671 := x1652 _ _ t1630
  have t1672 := x1652 _ _ t1631
  have t1673 := x1652 _ _ t1632
  have t1674 := x1652 _ _ t1633
  have t1675 := x1652 _ _ t1634
  have t1676 := x1652 _ _ t1635
  have t1677 := x1652 _ _ t1636
  have t1678 := x1652 _ _ t1637
  have t1679 := x1652 _ _ t1638
  have t1680 := x1652 _ _ t1639
  have t1681 := x1652 _ _ t1640
  have t1682 := x1652 _ _ t1641
  have t1683 := x1652 _ _ t1642
  have t1684 := x1652 _ _ t1643
  have t1685 := x1652 _ _ t1644
  have t1686 := x1652 _ _ t1645
  have t1687 := x1652 _ _ t1646
  have t1688 := x1652 _ _ t1647
  have t1689 := x1652 _ _ t1648
  have t1690 := x1652 _ _ t1649
  have t1691 := x1652 _ _ t1611
  obtain ⟨T1692, G1693, x1694, t1695, m1696⟩ : ∃ T', sGood F T' s1430 ∧ sTX T1650 T' ∧ T' (σ.1) = some 9 ∧ ∀ b, b ≠ σ.1 → T' b = T1650 b := ⟨kup T1650 (σ.1) 9, gd_type (κ := 9) G1651 P1656 ⟨fun sh e => by cases e; rfl, fun e => by cases e⟩ (fun k κ' e => by
    match k, e with
    | 0, e => cases e
    | 1, e => have e2 : some 51 = some κ' := e; cases e2; exact ⟨s0.1, by simp, t1657⟩
    | 2, e => have e2 : some 52 = some κ' := e; cases e2; exact ⟨s8.1, by simp, t1658⟩
    | 3, e => have e2 : some 53 = some κ' := e; cases e2; exact ⟨s20.1, by simp, t1659⟩
    | 4, e => have e2 : some 54 = some κ' := e; cases e2; exact ⟨s33.1, by simp, t1660⟩
    | 5, e => have e2 : some 55 = some κ' := e; cases e2; exact ⟨s47.1, by simp, t1687⟩
    | 6, e => have e2 : some 56 = some κ' := e; cases e2; exact ⟨s63.1, by simp, t1661⟩
    | 7, e => have e2 : some 57 = some κ' := e; cases e2; exact ⟨s80.1, by simp, t1662⟩
    | 8, e => have e2 : some 58 = some κ' := e; cases e2; exact ⟨s98.1, by simp, t1688⟩
    | 9, e => have e2 : some 59 = some κ' := e; cases e2; exact ⟨s119.1, by simp, t1689⟩
    | 10, e => have e2 : some 60 = some κ' := e; cases e2; exact ⟨s143.1, by simp, t1690⟩
    | 11, e => have e2 : some 61 = some κ' := e; cases e2; exact ⟨s170.1, by simp, t1663⟩
    | 12, e => cases e
    | 13, e => have e2 : some 63 = some κ' := e; cases e2; exact ⟨s195.1, by simp, t1664⟩
    | 14, e => cases e
    | 15, e => have e2 : some 65 = some κ' := e; cases e2; exact ⟨s221.1, by simp, t1665⟩
    | 16, e => have e2 : some 66 = some κ' := e; cases e2; exact ⟨s248.1, by simp, t1666⟩
    | 17, e => have e2 : some 67 = some κ' := e; cases e2; exact ⟨s276.1, by simp, t1667⟩
    | 18, e => have e2 : some 68 = some κ' := e; cases e2; exact ⟨s305.1, by simp, t1668⟩
    | 19, e => have e2 : some 69 = some κ' := e; cases e2; exact ⟨s335.1, by simp, t1669⟩
    | 20, e => have e2 : some 70 = some κ' := e; cases e2; exact ⟨s366.1, by simp, t1670⟩
    | 21, e => have e2 : some 71 = some κ' := e; cases e2; exact ⟨s398.1, by simp, t1671⟩
    | 22, e => have e2 : some 72 = some κ' := e; cases e2; exact ⟨s431.1, by simp, t1672⟩
    | 23, e => have e2 : some 73 = some κ' := e; cases e2; exact ⟨s465.1, by simp, t1673⟩
    | 24, e => have e2 : some 74 = some κ' := e; cases e2; exact ⟨s500.1, by simp, t1674⟩
    | 25, e => have e2 : some 75 = some κ' := e; cases e2; exact ⟨s536.1, by simp, t1675⟩
    | 26, e => have e2 : some 76 = some κ' := e; cases e2; exact ⟨s573.1, by simp, t1676⟩
    | 27, e => have e2 : some 77 = some κ' := e; cases e2; exact ⟨s611.1, by simp, t1691⟩
    | 28, e => cases e
    | 29, e => cases e
    | 30, e => cases e
    | 31, e => cases e
    | 32, e => have e2 : some 82 = some κ' := e; cases e2; exact ⟨s655.1, by simp, t1677⟩
    | 33, e => have e2 : some 83 = some κ' := e; cases e2; exact ⟨s696.1, by simp, t1678⟩
    | 34, e => cases e
    | 35, e => cases e
    | 36, e => have e2 : some 86 = some κ' := e; cases e2; exact ⟨s738.1, by simp, t1679⟩
    | 37, e => have e2 : some 87 = some κ' := e; cases e2; exact ⟨s781.1, by simp, t1680⟩
    | 38, e => have e2 : some 88 = some κ' := e; cases e2; exact ⟨s825.1, by simp, t1681⟩
    | 39, e => have e2 : some 89 = some κ' := e; cases e2; exact ⟨s870.1, by simp, t1682⟩
    | 40, e => have e2 : some 90 = some κ' := e; cases e2; exact ⟨s916.1, by simp, t1683⟩
    | 41, e => have e2 : some 91 = some κ' := e; cases e2; exact ⟨s963.1, by simp, t1653⟩
    | 42, e => have e2 : some 92 = some κ' := e; cases e2; exact ⟨s1017.1, by simp, t1684⟩
    | 43, e => have e2 : some 93 = some κ' := e; cases e2; exact ⟨s1067.1, by simp, t1685⟩
    | 44, e => cases e
    | 45, e => have e2 : some 95 = some κ' := e; cases e2; exact ⟨s1118.1, by simp, t1686⟩
    | k + 46, e => have e2 : (if k + 46 ≤ 45 then some (50 + (k + 46)) else none) = some κ' := e; rw [if_neg (by omega)] at e2; cases e2) (Or.inl rfl) (fun j => by
    match j with
    | 0 => exact kr_n rfl
    | 1 => exact kr_n rfl
    | 2 => exact kr_n rfl
    | 3 => exact kr_n rfl
    | 4 => exact kr_n rfl
    | 5 => exact kr_n rfl
    | 6 => exact kr_n rfl
    | 7 => exact kr_n rfl
    | 8 => exact kr_n rfl
    | 9 => exact kr_n rfl
    | 10 => exact kr_n rfl
    | 11 => exact kr_n rfl
    | 12 => exact kr_s (lo := 0) (hi := 60) rfl (by decide)
    | 13 => exact kr_n rfl
    | 14 => exact kr_s (lo := 0) (hi := 20) rfl (by decide)
    | 15 => exact kr_n rfl
    | 16 => exact kr_n rfl
    | 17 => exact kr_n rfl
    | 18 => exact kr_n rfl
    | 19 => exact kr_n rfl
    | 20 => exact kr_n rfl
    | 21 => exact kr_n rfl
    | 22 => exact kr_n rfl
    | 23 => exact kr_n rfl
    | 24 => exact kr_n rfl
    | 25 => exact kr_n rfl
    | 26 => exact kr_n rfl
    | 27 => exact kr_n rfl
    | 28 => exact kr_n rfl
    | 29 => exact kr_n rfl
    | 30 => exact kr_n rfl
    | 31 => exact kr_n rfl
    | 32 => exact kr_n rfl
    | 33 => exact kr_n rfl
    | 34 => exact kr_n rfl
    | 35 => exact kr_s (lo := 0) (hi := 60) rfl (by decide)
    | 36 => exact kr_n rfl
    | 37 => exact kr_n rfl
    | 38 => exact kr_n rfl
    | 39 => exact kr_n rfl
    | 40 => exact kr_n rfl
    | 41 => exact kr_n rfl
    | 42 => exact kr_n rfl
    | 43 => exact kr_n rfl
    | 44 => exact kr_s (lo := 0) (hi := 1100) rfl (by decide)
    | k + 45 => exact kr_n rfl) (fun j => by first | exact rfl | exact trivial), kup_tx P1656.1, kup_self, fun b hb => if_neg hb⟩
  have E1697 : sEV T σ T1692 s1430 := ⟨tx_trans E1655.1 x1694, E1655.2.1, fun b hb => ⟨(m1696 b (Nat.ne_of_lt (Nat.lt_of_lt_of_le hb b0))).trans (E1655.2.2 b hb).1, (E1655.2.2 b hb).2⟩⟩
  have t1698 := x1694 _ _ t1657
  have t1699 := x1694 _ _ t1658
  have t1700 := x1694 _ _ t1659
  have t1701 := x1694 _ _ t1660
  have t1702 := x1694 _ _ t1661
  have t1703 := x1694 _ _ t1662
  have t1704 := x1694 _ _ t1663
  have t1705 := x1694 _ _ t1664
  have t1706 := x1694 _ _ t1665
  have t1707 := x1694 _ _ t1666
  have t1708 := x1694 _ _ t1667
  have t1709 := x1694 _ _ t1668
  have t1710 := x1694 _ _ t1669
  have t1711 := x1694 _ _ t1670
  have t1712 := x1694 _ _ t1671
  have t1713 := x1694 _ _ t1672
  have t1714 := x1694 _ _ t1673
  have t1715 := x1694 _ _ t1674
  have t1716 := x1694 _ _ t1675
  have t1717 := x1694 _ _ t1676
  have t1718 := x1694 _ _ t1677
  have t1719 := x1694 _ _ t1678
  have t1720 := x1694 _ _ t1679
  have t1721 := x1694 _ _ t1680
  have t1722 := x1694 _ _ t1681
  have t1723 := x1694 _ _ t1682
  have t1724 := x1694 _ _ t1683
  have t1725 := x1694 _ _ t1684
  have t1726 := x1694 _ _ t1685
  have t1727 := x1694 _ _ t1686
  have t1728 := x1694 _ _ t1687
  have t1729 := x1694 _ _ t1688
  have t1730 := x1694 _ _ t1689
  have t1731 := x1694 _ _ t1690
  have t1732 := x1694 _ _ t1691
  have t1733 := x1694 _ _ t1653
  exact sw_some ⟨_, E1697, G1693, t1695⟩
