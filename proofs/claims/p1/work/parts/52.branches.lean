set_option maxHeartbeats 4000000 in
set_option maxRecDepth 100000 in
theorem bL_pair {G : mm_G} {A : Nat → Prop} {b L o8 o9 out : Nat} {xs : Nat → Int32} {i : Int32} {σ : mm_M} {ck sk : Nat} {N : mm_M → Prop} (hi : 0 ≤ i.toInt ∧ i.toInt + 6 ≤ L ∧ L ≤ 4000) (hc : ck + 1 ≤ 600002 ∧ sk + 6 ≤ 7302232) (h8 : σ.2.1 o8 = some (.inl 8)) (hst : lw_step (fun τ => fX8_pair o8 (xs (i + 1).toNatClampNeg) (xs (i + 2).toNatClampNeg) (xs (i + 3).toNatClampNeg) τ) (fun τ => fX9_pair o9 (xs (i + 1).toNatClampNeg) (xs (i + 2).toNatClampNeg) (xs (i + 3).toNatClampNeg) τ) o9 out σ N) (kk : ∀ σ', N σ' → JL G A b L xs 1288 [(0, .ref b), (1, .ref o8), (2, .ref o9), (3, .ref out), (4, .int i)] [] σ' (ck + 1) (sk + 6)) : JL G A b L xs 132 [(0, .ref b), (1, .ref o8), (2, .ref o9), (3, .ref out), (4, .int i)] [] σ ck sk := by
  refine mm_aload_n (j := 1) dL_law_132 rfl rfl ?_
  refine mm_aload_n (j := 0) dL_law_133 rfl rfl ?_
  refine mm_iload (j := 4) dL_law_134 rfl ?_
  refine mm_iconst (v := 1) dL_law_136 (by decide) ?_
  refine mm_iadd dL_law_137 ?_
  refine lw_sld (lw_in hi (by decide)) dL_law_138 ?_
  refine mm_aload_n (j := 0) dL_law_139 rfl rfl ?_
  refine mm_iload (j := 4) dL_law_140 rfl ?_
  refine mm_iconst (v := 2) dL_law_142 (by decide) ?_
  refine mm_iadd dL_law_143 ?_
  refine lw_sld (lw_in hi (by decide)) dL_law_144 ?_
  refine mm_aload_n (j := 0) dL_law_145 rfl rfl ?_
  refine mm_iload (j := 4) dL_law_146 rfl ?_
  refine mm_iconst (v := 3) dL_law_148 (by decide) ?_
  refine mm_iadd dL_law_149 ?_
  refine lw_sld (lw_in hi (by decide)) dL_law_150 ?_
  refine mm_aload_n (j := 3) dL_law_151 rfl rfl ?_
  obtain ⟨Rr, hf8, hso, hs0, hs1⟩ := hst
  refine lw_callH (kL_pair o8 (xs (i + 1).toNatClampNeg) (xs (i + 2).toNatClampNeg) (xs (i + 3).toNatClampNeg) out hf8 h8 hso (by decide)) tw_231 tw_233 tw_0 tw_232 nmL_pair rfl rfl (by simp only [List.map_cons, List.map_nil, mm_rf_cat]; exact Nat.le_of_ble_eq_true rfl) dL_law_152 ⟨Nat.le_of_ble_eq_true rfl, Nat.le_of_ble_eq_true rfl⟩ ⟨by have := hc.1; show ck + 1 ≤ 600002; omega, by have := hc.2; show sk + 6 ≤ 7302232; omega⟩ (fun r hr => ?_) (fun hr z => ?_)
  · obtain ⟨h9, R9, hf9, h9b, ht, hb9, hso9, hlo, hN⟩ := hs0 r hr
    refine mm_istore (L' := [(5, .int 0), (0, .ref b), (1, .ref o8), (2, .ref o9), (3, .ref out), (4, .int i)]) dL_law_155 (by decide) rfl ?_
    refine mm_aload_n (j := 3) dL_law_157 rfl rfl ?_
    refine mm_aload_n (j := 1) dL_law_158 rfl rfl ?_
    refine mm_iload (j := 5) dL_law_159 rfl ?_
    refine mm_iconst (v := 1) dL_law_161 (by decide) ?_
    refine mm_iadd dL_law_162 ?_
    refine lw_sld (lw_in hi (by decide)) dL_law_163 ?_
    refine mm_aload_n (j := 1) dL_law_164 rfl rfl ?_
    refine mm_iload (j := 5) dL_law_165 rfl ?_
    refine mm_iconst (v := 2) dL_law_167 (by decide) ?_
    refine mm_iadd dL_law_168 ?_
    refine lw_sld (lw_in hi (by decide)) dL_law_169 ?_
    refine mm_aload_n (j := 1) dL_law_170 rfl rfl ?_
    refine mm_iload (j := 5) dL_law_171 rfl ?_
    refine mm_iconst (v := 3) dL_law_173 (by decide) ?_
    refine mm_iadd dL_law_174 ?_
    refine lw_sld (lw_in hi (by decide)) dL_law_175 ?_
    refine mm_callVi cd_ok (kX9_pair o9 (xs (i + 1).toNatClampNeg) (xs (i + 2).toNatClampNeg) (xs (i + 3).toNatClampNeg) hf9) h9 rfl (Or.inl tw_937) cdX9_pair tw_938 tw_939 nmX9_pair rfl rfl (by simp only [List.map_cons, List.map_nil, mm_rf_cat]; exact Nat.le_of_ble_eq_true rfl) dL_law_176 ⟨Nat.le_of_ble_eq_true rfl, Nat.le_of_ble_eq_true rfl⟩ ⟨by have := hc.1; show ck + 1 + 0 ≤ 600002; omega, by have := hc.2; show sk + 6 + 0 ≤ 7302232; omega⟩ ?_
    refine mm_istore (L' := [(6, .int R9.1), (5, .int 0), (0, .ref b), (1, .ref o8), (2, .ref o9), (3, .ref out), (4, .int i)]) dL_law_179 (by decide) rfl ?_
    refine mm_aload_n (j := 4) dL_law_181 rfl rfl ?_
    refine mm_callVi cd_ok (kX9_thrown o9 (show fX9_thrown o9 R9.2 = some (mm_I R9.2 o9 0, R9.2) from by unfold fX9_thrown mm_sh; rw [if_pos h9b])) h9b rfl (Or.inl tw_933) cdX9_thrown tw_934 tw_935 nmX9_thrown rfl rfl (by simp only [List.map_cons, List.map_nil, mm_rf_cat]; exact Nat.le_of_ble_eq_true rfl) dL_law_182 ⟨Nat.le_of_ble_eq_true rfl, Nat.le_of_ble_eq_true rfl⟩ ⟨by have := hc.1; show ck + 1 + 0 + 0 ≤ 600002; omega, by have := hc.2; show sk + 6 + 0 + 0 ≤ 7302232; omega⟩ ?_
    refine mm_iload (j := 1) dL_law_185 rfl ?_
    refine mm_icmp_eq (tgt := 192) dL_law_187 (by decide) (fun _ => ?_) (fun h => absurd ht h)
    refine mm_iload (j := 1) dL_law_192 rfl ?_
    refine mm_if_ne (tgt := 209) dL_law_194 (by decide) (fun h => absurd rfl h) (fun _ => ?_)
    refine mm_aload_n (j := 5) dL_law_197 rfl rfl ?_
    refine mm_iconst (v := 0) dL_law_198 (by decide) ?_
    refine mm_lald hso9 rfl (mm_in0 (by decide)) dL_law_199 ?_
    refine mm_iload (j := 0) dL_law_200 rfl ?_
    refine mm_i2l dL_law_202 ?_
    refine lw_lcmp dL_law_203 ?_
    refine mm_if_eq (tgt := 209) dL_law_204 (by decide) (fun _ => ?_) (fun h => absurd (by rw [hlo, hb9]; exact lw_cmp_eq _) h)
    refine mm_goto (tgt := 1288) dL_law_209 (by decide) ?_
    refine mm_sub [2, 3, 4, 5, 6] rfl ?_
    refine mm_widen (ck' := ck + 1) (sk' := sk + 6) (by show ck + 1 + 0 + 0 ≤ ck + 1; omega) (by show sk + 6 + 0 + 0 ≤ sk + 6; omega) ?_
    exact kk _ hN
  · refine lw_lt (fun hlt => ?_)
    obtain ⟨h9, R9, hf9, h9b, ht, hN⟩ := hs1 hr z hlt
    refine mm_istore (L' := [(5, .int 1), (0, .ref b), (1, .ref o8), (2, .ref o9), (3, .ref out), (4, .int i)]) dL_law_155 (by decide) rfl ?_
    refine mm_aload_n (j := 3) dL_law_157 rfl rfl ?_
    refine mm_aload_n (j := 1) dL_law_158 rfl rfl ?_
    refine mm_iload (j := 5) dL_law_159 rfl ?_
    refine mm_iconst (v := 1) dL_law_161 (by decide) ?_
    refine mm_iadd dL_law_162 ?_
    refine lw_sld (lw_in hi (by decide)) dL_law_163 ?_
    refine mm_aload_n (j := 1) dL_law_164 rfl rfl ?_
    refine mm_iload (j := 5) dL_law_165 rfl ?_
    refine mm_iconst (v := 2) dL_law_167 (by decide) ?_
    refine mm_iadd dL_law_168 ?_
    refine lw_sld (lw_in hi (by decide)) dL_law_169 ?_
    refine mm_aload_n (j := 1) dL_law_170 rfl rfl ?_
    refine mm_iload (j := 5) dL_law_171 rfl ?_
    refine mm_iconst (v := 3) dL_law_173 (by decide) ?_
    refine mm_iadd dL_law_174 ?_
    refine lw_sld (lw_in hi (by decide)) dL_law_175 ?_
    refine mm_callVi cd_ok (kX9_pair o9 (xs (i + 1).toNatClampNeg) (xs (i + 2).toNatClampNeg) (xs (i + 3).toNatClampNeg) hf9) h9 rfl (Or.inl tw_937) cdX9_pair tw_938 tw_939 nmX9_pair rfl rfl (by simp only [List.map_cons, List.map_nil, mm_rf_cat]; exact Nat.le_of_ble_eq_true rfl) dL_law_176 ⟨Nat.le_of_ble_eq_true rfl, Nat.le_of_ble_eq_true rfl⟩ ⟨by have := hc.1; show ck + 1 + 0 ≤ 600002; omega, by have := hc.2; show sk + 6 + 0 ≤ 7302232; omega⟩ ?_
    refine mm_istore (L' := [(6, .int R9.1), (5, .int 1), (0, .ref b), (1, .ref o8), (2, .ref o9), (3, .ref out), (4, .int i)]) dL_law_179 (by decide) rfl ?_
    refine mm_aload_n (j := 4) dL_law_181 rfl rfl ?_
    refine mm_callVi cd_ok (kX9_thrown o9 (show fX9_thrown o9 R9.2 = some (mm_I R9.2 o9 0, R9.2) from by unfold fX9_thrown mm_sh; rw [if_pos h9b])) h9b rfl (Or.inl tw_933) cdX9_thrown tw_934 tw_935 nmX9_thrown rfl rfl (by simp only [List.map_cons, List.map_nil, mm_rf_cat]; exact Nat.le_of_ble_eq_true rfl) dL_law_182 ⟨Nat.le_of_ble_eq_true rfl, Nat.le_of_ble_eq_true rfl⟩ ⟨by have := hc.1; show ck + 1 + 0 + 0 ≤ 600002; omega, by have := hc.2; show sk + 6 + 0 + 0 ≤ 7302232; omega⟩ ?_
    refine mm_iload (j := 1) dL_law_185 rfl ?_
    refine mm_icmp_eq (tgt := 192) dL_law_187 (by decide) (fun _ => ?_) (fun h => absurd ht h)
    refine mm_iload (j := 1) dL_law_192 rfl ?_
    refine mm_if_ne (tgt := 209) dL_law_194 (by decide) (fun _ => ?_) (fun h => absurd h (by decide))
    refine mm_goto (tgt := 1288) dL_law_209 (by decide) ?_
    refine mm_sub [2, 3, 4, 5, 6] rfl ?_
    refine mm_widen (ck' := ck + 1) (sk' := sk + 6) (by show ck + 1 + 0 + 0 ≤ ck + 1; omega) (by show sk + 6 + 0 + 0 ≤ sk + 6; omega) ?_
    exact kk _ hN
set_option maxHeartbeats 4000000 in
set_option maxRecDepth 100000 in
theorem bL_cell {G : mm_G} {A : Nat → Prop} {b L o8 o9 out : Nat} {xs : Nat → Int32} {i : Int32} {σ : mm_M} {ck sk : Nat} {N : mm_M → Prop} (hi : 0 ≤ i.toInt ∧ i.toInt + 6 ≤ L ∧ L ≤ 4000) (hc : ck + 1 ≤ 600002 ∧ sk + 6 ≤ 7302232) (h8 : σ.2.1 o8 = some (.inl 8)) (hst : lw_step (fun τ => fX8_cell o8 (xs (i + 1).toNatClampNeg) (xs (i + 2).toNatClampNeg) (xs (i + 3).toNatClampNeg) (xs (i + 4).toNatClampNeg) (xs (i + 5).toNatClampNeg) τ) (fun τ => fX9_cell o9 (xs (i + 1).toNatClampNeg) (xs (i + 2).toNatClampNeg) (xs (i + 3).toNatClampNeg) (xs (i + 4).toNatClampNeg) (xs (i + 5).toNatClampNeg) τ) o9 out σ N) (kk : ∀ σ', N σ' → JL G A b L xs 1288 [(0, .ref b), (1, .ref o8), (2, .ref o9), (3, .ref out), (4, .int i)] [] σ' (ck + 1) (sk + 6)) : JL G A b L xs 212 [(0, .ref b), (1, .ref o8), (2, .ref o9), (3, .ref out), (4, .int i)] [] σ ck sk := by
  refine mm_aload_n (j := 1) dL_law_212 rfl rfl ?_
  refine mm_aload_n (j := 0) dL_law_213 rfl rfl ?_
  refine mm_iload (j := 4) dL_law_214 rfl ?_
  refine mm_iconst (v := 1) dL_law_216 (by decide) ?_
  refine mm_iadd dL_law_217 ?_
  refine lw_sld (lw_in hi (by decide)) dL_law_218 ?_
  refine mm_aload_n (j := 0) dL_law_219 rfl rfl ?_
  refine mm_iload (j := 4) dL_law_220 rfl ?_
  refine mm_iconst (v := 2) dL_law_222 (by decide) ?_
  refine mm_iadd dL_law_223 ?_
  refine lw_sld (lw_in hi (by decide)) dL_law_224 ?_
  refine mm_aload_n (j := 0) dL_law_225 rfl rfl ?_
  refine mm_iload (j := 4) dL_law_226 rfl ?_
  refine mm_iconst (v := 3) dL_law_228 (by decide) ?_
  refine mm_iadd dL_law_229 ?_
  refine lw_sld (lw_in hi (by decide)) dL_law_230 ?_
  refine mm_aload_n (j := 0) dL_law_231 rfl rfl ?_
  refine mm_iload (j := 4) dL_law_232 rfl ?_
  refine mm_iconst (v := 4) dL_law_234 (by decide) ?_
  refine mm_iadd dL_law_235 ?_
  refine lw_sld (lw_in hi (by decide)) dL_law_236 ?_
  refine mm_aload_n (j := 0) dL_law_237 rfl rfl ?_
  refine mm_iload (j := 4) dL_law_238 rfl ?_
  refine mm_iconst (v := 5) dL_law_240 (by decide) ?_
  refine mm_iadd dL_law_241 ?_
  refine lw_sld (lw_in hi (by decide)) dL_law_242 ?_
  refine mm_aload_n (j := 3) dL_law_243 rfl rfl ?_
  obtain ⟨Rr, hf8, hso, hs0, hs1⟩ := hst
  refine lw_callH (kL_cell o8 (xs (i + 1).toNatClampNeg) (xs (i + 2).toNatClampNeg) (xs (i + 3).toNatClampNeg) (xs (i + 4).toNatClampNeg) (xs (i + 5).toNatClampNeg) out hf8 h8 hso (by decide)) tw_420 tw_422 tw_0 tw_421 nmL_cell rfl rfl (by simp only [List.map_cons, List.map_nil, mm_rf_cat]; exact Nat.le_of_ble_eq_true rfl) dL_law_244 ⟨Nat.le_of_ble_eq_true rfl, Nat.le_of_ble_eq_true rfl⟩ ⟨by have := hc.1; show ck + 1 ≤ 600002; omega, by have := hc.2; show sk + 6 ≤ 7302232; omega⟩ (fun r hr => ?_) (fun hr z => ?_)
  · obtain ⟨h9, R9, hf9, h9b, ht, hb9, hso9, hlo, hN⟩ := hs0 r hr
    refine mm_istore (L' := [(5, .int 0), (0, .ref b), (1, .ref o8), (2, .ref o9), (3, .ref out), (4, .int i)]) dL_law_247 (by decide) rfl ?_
    refine mm_aload_n (j := 3) dL_law_249 rfl rfl ?_
    refine mm_aload_n (j := 1) dL_law_250 rfl rfl ?_
    refine mm_iload (j := 5) dL_law_251 rfl ?_
    refine mm_iconst (v := 1) dL_law_253 (by decide) ?_
    refine mm_iadd dL_law_254 ?_
    refine lw_sld (lw_in hi (by decide)) dL_law_255 ?_
    refine mm_aload_n (j := 1) dL_law_256 rfl rfl ?_
    refine mm_iload (j := 5) dL_law_257 rfl ?_
    refine mm_iconst (v := 2) dL_law_259 (by decide) ?_
    refine mm_iadd dL_law_260 ?_
    refine lw_sld (lw_in hi (by decide)) dL_law_261 ?_
    refine mm_aload_n (j := 1) dL_law_262 rfl rfl ?_
    refine mm_iload (j := 5) dL_law_263 rfl ?_
    refine mm_iconst (v := 3) dL_law_265 (by decide) ?_
    refine mm_iadd dL_law_266 ?_
    refine lw_sld (lw_in hi (by decide)) dL_law_267 ?_
    refine mm_aload_n (j := 1) dL_law_268 rfl rfl ?_
    refine mm_iload (j := 5) dL_law_269 rfl ?_
    refine mm_iconst (v := 4) dL_law_271 (by decide) ?_
    refine mm_iadd dL_law_272 ?_
    refine lw_sld (lw_in hi (by decide)) dL_law_273 ?_
    refine mm_aload_n (j := 1) dL_law_274 rfl rfl ?_
    refine mm_iload (j := 5) dL_law_275 rfl ?_
    refine mm_iconst (v := 5) dL_law_277 (by decide) ?_
    refine mm_iadd dL_law_278 ?_
    refine lw_sld (lw_in hi (by decide)) dL_law_279 ?_
    refine mm_callVi cd_ok (kX9_cell o9 (xs (i + 1).toNatClampNeg) (xs (i + 2).toNatClampNeg) (xs (i + 3).toNatClampNeg) (xs (i + 4).toNatClampNeg) (xs (i + 5).toNatClampNeg) hf9) h9 rfl (Or.inl tw_1002) cdX9_cell tw_1003 tw_1004 nmX9_cell rfl rfl (by simp only [List.map_cons, List.map_nil, mm_rf_cat]; exact Nat.le_of_ble_eq_true rfl) dL_law_280 ⟨Nat.le_of_ble_eq_true rfl, Nat.le_of_ble_eq_true rfl⟩ ⟨by have := hc.1; show ck + 1 + 0 ≤ 600002; omega, by have := hc.2; show sk + 6 + 0 ≤ 7302232; omega⟩ ?_
    refine mm_istore (L' := [(6, .int R9.1), (5, .int 0), (0, .ref b), (1, .ref o8), (2, .ref o9), (3, .ref out), (4, .int i)]) dL_law_283 (by decide) rfl ?_
    refine mm_aload_n (j := 4) dL_law_285 rfl rfl ?_
    refine mm_callVi cd_ok (kX9_thrown o9 (show fX9_thrown o9 R9.2 = some (mm_I R9.2 o9 0, R9.2) from by unfold fX9_thrown mm_sh; rw [if_pos h9b])) h9b rfl (Or.inl tw_933) cdX9_thrown tw_934 tw_935 nmX9_thrown rfl rfl (by simp only [List.map_cons, List.map_nil, mm_rf_cat]; exact Nat.le_of_ble_eq_true rfl) dL_law_286 ⟨Nat.le_of_ble_eq_true rfl, Nat.le_of_ble_eq_true rfl⟩ ⟨by have := hc.1; show ck + 1 + 0 + 0 ≤ 600002; omega, by have := hc.2; show sk + 6 + 0 + 0 ≤ 7302232; omega⟩ ?_
    refine mm_iload (j := 1) dL_law_289 rfl ?_
    refine mm_icmp_eq (tgt := 296) dL_law_291 (by decide) (fun _ => ?_) (fun h => absurd ht h)
    refine mm_iload (j := 1) dL_law_296 rfl ?_
    refine mm_if_ne (tgt := 313) dL_law_298 (by decide) (fun h => absurd rfl h) (fun _ => ?_)
    refine mm_aload_n (j := 5) dL_law_301 rfl rfl ?_
    refine mm_iconst (v := 0) dL_law_302 (by decide) ?_
    refine mm_lald hso9 rfl (mm_in0 (by decide)) dL_law_303 ?_
    refine mm_iload (j := 0) dL_law_304 rfl ?_
    refine mm_i2l dL_law_306 ?_
    refine lw_lcmp dL_law_307 ?_
    refine mm_if_eq (tgt := 313) dL_law_308 (by decide) (fun _ => ?_) (fun h => absurd (by rw [hlo, hb9]; exact lw_cmp_eq _) h)
    refine mm_goto (tgt := 1288) dL_law_313 (by decide) ?_
    refine mm_sub [2, 3, 4, 5, 6] rfl ?_
    refine mm_widen (ck' := ck + 1) (sk' := sk + 6) (by show ck + 1 + 0 + 0 ≤ ck + 1; omega) (by show sk + 6 + 0 + 0 ≤ sk + 6; omega) ?_
    exact kk _ hN
  · refine lw_lt (fun hlt => ?_)
    obtain ⟨h9, R9, hf9, h9b, ht, hN⟩ := hs1 hr z hlt
    refine mm_istore (L' := [(5, .int 1), (0, .ref b), (1, .ref o8), (2, .ref o9), (3, .ref out), (4, .int i)]) dL_law_247 (by decide) rfl ?_
    refine mm_aload_n (j := 3) dL_law_249 rfl rfl ?_
    refine mm_aload_n (j := 1) dL_law_250 rfl rfl ?_
    refine mm_iload (j := 5) dL_law_251 rfl ?_
    refine mm_iconst (v := 1) dL_law_253 (by decide) ?_
    refine mm_iadd dL_law_254 ?_
    refine lw_sld (lw_in hi (by decide)) dL_law_255 ?_
    refine mm_aload_n (j := 1) dL_law_256 rfl rfl ?_
    refine mm_iload (j := 5) dL_law_257 rfl ?_
    refine mm_iconst (v := 2) dL_law_259 (by decide) ?_
    refine mm_iadd dL_law_260 ?_
    refine lw_sld (lw_in hi (by decide)) dL_law_261 ?_
    refine mm_aload_n (j := 1) dL_law_262 rfl rfl ?_
    refine mm_iload (j := 5) dL_law_263 rfl ?_
    refine mm_iconst (v := 3) dL_law_265 (by decide) ?_
    refine mm_iadd dL_law_266 ?_
    refine lw_sld (lw_in hi (by decide)) dL_law_267 ?_
    refine mm_aload_n (j := 1) dL_law_268 rfl rfl ?_
    refine mm_iload (j := 5) dL_law_269 rfl ?_
    refine mm_iconst (v := 4) dL_law_271 (by decide) ?_
    refine mm_iadd dL_law_272 ?_
    refine lw_sld (lw_in hi (by decide)) dL_law_273 ?_
    refine mm_aload_n (j := 1) dL_law_274 rfl rfl ?_
    refine mm_iload (j := 5) dL_law_275 rfl ?_
    refine mm_iconst (v := 5) dL_law_277 (by decide) ?_
    refine mm_iadd dL_law_278 ?_
    refine lw_sld (lw_in hi (by decide)) dL_law_279 ?_
    refine mm_callVi cd_ok (kX9_cell o9 (xs (i + 1).toNatClampNeg) (xs (i + 2).toNatClampNeg) (xs (i + 3).toNatClampNeg) (xs (i + 4).toNatClampNeg) (xs (i + 5).toNatClampNeg) hf9) h9 rfl (Or.inl tw_1002) cdX9_cell tw_1003 tw_1004 nmX9_cell rfl rfl (by simp only [List.map_cons, List.map_nil, mm_rf_cat]; exact Nat.le_of_ble_eq_true rfl) dL_law_280 ⟨Nat.le_of_ble_eq_true rfl, Nat.le_of_ble_eq_true rfl⟩ ⟨by have := hc.1; show ck + 1 + 0 ≤ 600002; omega, by have := hc.2; show sk + 6 + 0 ≤ 7302232; omega⟩ ?_
    refine mm_istore (L' := [(6, .int R9.1), (5, .int 1), (0, .ref b), (1, .ref o8), (2, .ref o9), (3, .ref out), (4, .int i)]) dL_law_283 (by decide) rfl ?_
    refine mm_aload_n (j := 4) dL_law_285 rfl rfl ?_
    refine mm_callVi cd_ok (kX9_thrown o9 (show fX9_thrown o9 R9.2 = some (mm_I R9.2 o9 0, R9.2) from by unfold fX9_thrown mm_sh; rw [if_pos h9b])) h9b rfl (Or.inl tw_933) cdX9_thrown tw_934 tw_935 nmX9_thrown rfl rfl (by simp only [List.map_cons, List.map_nil, mm_rf_cat]; exact Nat.le_of_ble_eq_true rfl) dL_law_286 ⟨Nat.le_of_ble_eq_true rfl, Nat.le_of_ble_eq_true rfl⟩ ⟨by have := hc.1; show ck + 1 + 0 + 0 ≤ 600002; omega, by have := hc.2; show sk + 6 + 0 + 0 ≤ 7302232; omega⟩ ?_
    refine mm_iload (j := 1) dL_law_289 rfl ?_
    refine mm_icmp_eq (tgt := 296) dL_law_291 (by decide) (fun _ => ?_) (fun h => absurd ht h)
    refine mm_iload (j := 1) dL_law_296 rfl ?_
    refine mm_if_ne (tgt := 313) dL_law_298 (by decide) (fun _ => ?_) (fun h => absurd h (by decide))
    refine mm_goto (tgt := 1288) dL_law_313 (by decide) ?_
    refine mm_sub [2, 3, 4, 5, 6] rfl ?_
    refine mm_widen (ck' := ck + 1) (sk' := sk + 6) (by show ck + 1 + 0 + 0 ≤ ck + 1; omega) (by show sk + 6 + 0 + 0 ≤ sk + 6; omega) ?_
    exact kk _ hN
set_option maxHeartbeats 4000000 in
set_option maxRecDepth 100000 in
theorem bL_state {G : mm_G} {A : Nat → Prop} {b L o8 o9 out : Nat} {xs : Nat → Int32} {i : Int32} {σ : mm_M} {ck sk : Nat} {N : mm_M → Prop} (hi : 0 ≤ i.toInt ∧ i.toInt + 6 ≤ L ∧ L ≤ 4000) (hc : ck + 1 ≤ 600002 ∧ sk + 6 ≤ 7302232) (h8 : σ.2.1 o8 = some (.inl 8)) (hst : lw_step (fun τ => fX8_state o8 (xs (i + 1).toNatClampNeg) (xs (i + 2).toNatClampNeg) τ) (fun τ => fX9_state o9 (xs (i + 1).toNatClampNeg) (xs (i + 2).toNatClampNeg) τ) o9 out σ N) (kk : ∀ σ', N σ' → JL G A b L xs 1288 [(0, .ref b), (1, .ref o8), (2, .ref o9), (3, .ref out), (4, .int i)] [] σ' (ck + 1) (sk + 6)) : JL G A b L xs 316 [(0, .ref b), (1, .ref o8), (2, .ref o9), (3, .ref out), (4, .int i)] [] σ ck sk := by
  refine mm_aload_n (j := 1) dL_law_316 rfl rfl ?_
  refine mm_aload_n (j := 0) dL_law_317 rfl rfl ?_
  refine mm_iload (j := 4) dL_law_318 rfl ?_
  refine mm_iconst (v := 1) dL_law_320 (by decide) ?_
  refine mm_iadd dL_law_321 ?_
  refine lw_sld (lw_in hi (by decide)) dL_law_322 ?_
  refine mm_aload_n (j := 0) dL_law_323 rfl rfl ?_
  refine mm_iload (j := 4) dL_law_324 rfl ?_
  refine mm_iconst (v := 2) dL_law_326 (by decide) ?_
  refine mm_iadd dL_law_327 ?_
  refine lw_sld (lw_in hi (by decide)) dL_law_328 ?_
  refine mm_aload_n (j := 3) dL_law_329 rfl rfl ?_
  obtain ⟨Rr, hf8, hso, hs0, hs1⟩ := hst
  refine lw_callH (kL_state o8 (xs (i + 1).toNatClampNeg) (xs (i + 2).toNatClampNeg) out hf8 h8 hso (by decide)) tw_437 tw_439 tw_0 tw_438 nmL_state rfl rfl (by simp only [List.map_cons, List.map_nil, mm_rf_cat]; exact Nat.le_of_ble_eq_true rfl) dL_law_330 ⟨Nat.le_of_ble_eq_true rfl, Nat.le_of_ble_eq_true rfl⟩ ⟨by have := hc.1; show ck + 1 ≤ 600002; omega, by have := hc.2; show sk + 6 ≤ 7302232; omega⟩ (fun r hr => ?_) (fun hr z => ?_)
  · obtain ⟨h9, R9, hf9, h9b, ht, hb9, hso9, hlo, hN⟩ := hs0 r hr
    refine mm_istore (L' := [(5, .int 0), (0, .ref b), (1, .ref o8), (2, .ref o9), (3, .ref out), (4, .int i)]) dL_law_333 (by decide) rfl ?_
    refine mm_aload_n (j := 3) dL_law_335 rfl rfl ?_
    refine mm_aload_n (j := 1) dL_law_336 rfl rfl ?_
    refine mm_iload (j := 5) dL_law_337 rfl ?_
    refine mm_iconst (v := 1) dL_law_339 (by decide) ?_
    refine mm_iadd dL_law_340 ?_
    refine lw_sld (lw_in hi (by decide)) dL_law_341 ?_
    refine mm_aload_n (j := 1) dL_law_342 rfl rfl ?_
    refine mm_iload (j := 5) dL_law_343 rfl ?_
    refine mm_iconst (v := 2) dL_law_345 (by decide) ?_
    refine mm_iadd dL_law_346 ?_
    refine lw_sld (lw_in hi (by decide)) dL_law_347 ?_
    refine mm_callVi cd_ok (kX9_state o9 (xs (i + 1).toNatClampNeg) (xs (i + 2).toNatClampNeg) hf9) h9 rfl (Or.inl tw_1006) cdX9_state tw_1007 tw_1008 nmX9_state rfl rfl (by simp only [List.map_cons, List.map_nil, mm_rf_cat]; exact Nat.le_of_ble_eq_true rfl) dL_law_348 ⟨Nat.le_of_ble_eq_true rfl, Nat.le_of_ble_eq_true rfl⟩ ⟨by have := hc.1; show ck + 1 + 0 ≤ 600002; omega, by have := hc.2; show sk + 6 + 0 ≤ 7302232; omega⟩ ?_
    refine mm_istore (L' := [(6, .int R9.1), (5, .int 0), (0, .ref b), (1, .ref o8), (2, .ref o9), (3, .ref out), (4, .int i)]) dL_law_351 (by decide) rfl ?_
    refine mm_aload_n (j := 4) dL_law_353 rfl rfl ?_
    refine mm_callVi cd_ok (kX9_thrown o9 (show fX9_thrown o9 R9.2 = some (mm_I R9.2 o9 0, R9.2) from by unfold fX9_thrown mm_sh; rw [if_pos h9b])) h9b rfl (Or.inl tw_933) cdX9_thrown tw_934 tw_935 nmX9_thrown rfl rfl (by simp only [List.map_cons, List.map_nil, mm_rf_cat]; exact Nat.le_of_ble_eq_true rfl) dL_law_354 ⟨Nat.le_of_ble_eq_true rfl, Nat.le_of_ble_eq_true rfl⟩ ⟨by have := hc.1; show ck + 1 + 0 + 0 ≤ 600002; omega, by have := hc.2; show sk + 6 + 0 + 0 ≤ 7302232; omega⟩ ?_
    refine mm_iload (j := 1) dL_law_357 rfl ?_
    refine mm_icmp_eq (tgt := 364) dL_law_359 (by decide) (fun _ => ?_) (fun h => absurd ht h)
    refine mm_iload (j := 1) dL_law_364 rfl ?_
    refine mm_if_ne (tgt := 381) dL_law_366 (by decide) (fun h => absurd rfl h) (fun _ => ?_)
    refine mm_aload_n (j := 5) dL_law_369 rfl rfl ?_
    refine mm_iconst (v := 0) dL_law_370 (by decide) ?_
    refine mm_lald hso9 rfl (mm_in0 (by decide)) dL_law_371 ?_
    refine mm_iload (j := 0) dL_law_372 rfl ?_
    refine mm_i2l dL_law_374 ?_
    refine lw_lcmp dL_law_375 ?_
    refine mm_if_eq (tgt := 381) dL_law_376 (by decide) (fun _ => ?_) (fun h => absurd (by rw [hlo, hb9]; exact lw_cmp_eq _) h)
    refine mm_goto (tgt := 1288) dL_law_381 (by decide) ?_
    refine mm_sub [2, 3, 4, 5, 6] rfl ?_
    refine mm_widen (ck' := ck + 1) (sk' := sk + 6) (by show ck + 1 + 0 + 0 ≤ ck + 1; omega) (by show sk + 6 + 0 + 0 ≤ sk + 6; omega) ?_
    exact kk _ hN
  · refine lw_lt (fun hlt => ?_)
    obtain ⟨h9, R9, hf9, h9b, ht, hN⟩ := hs1 hr z hlt
    refine mm_istore (L' := [(5, .int 1), (0, .ref b), (1, .ref o8), (2, .ref o9), (3, .ref out), (4, .int i)]) dL_law_333 (by decide) rfl ?_
    refine mm_aload_n (j := 3) dL_law_335 rfl rfl ?_
    refine mm_aload_n (j := 1) dL_law_336 rfl rfl ?_
    refine mm_iload (j := 5) dL_law_337 rfl ?_
    refine mm_iconst (v := 1) dL_law_339 (by decide) ?_
    refine mm_iadd dL_law_340 ?_
    refine lw_sld (lw_in hi (by decide)) dL_law_341 ?_
    refine mm_aload_n (j := 1) dL_law_342 rfl rfl ?_
    refine mm_iload (j := 5) dL_law_343 rfl ?_
    refine mm_iconst (v := 2) dL_law_345 (by decide) ?_
    refine mm_iadd dL_law_346 ?_
    refine lw_sld (lw_in hi (by decide)) dL_law_347 ?_
    refine mm_callVi cd_ok (kX9_state o9 (xs (i + 1).toNatClampNeg) (xs (i + 2).toNatClampNeg) hf9) h9 rfl (Or.inl tw_1006) cdX9_state tw_1007 tw_1008 nmX9_state rfl rfl (by simp only [List.map_cons, List.map_nil, mm_rf_cat]; exact Nat.le_of_ble_eq_true rfl) dL_law_348 ⟨Nat.le_of_ble_eq_true rfl, Nat.le_of_ble_eq_true rfl⟩ ⟨by have := hc.1; show ck + 1 + 0 ≤ 600002; omega, by have := hc.2; show sk + 6 + 0 ≤ 7302232; omega⟩ ?_
    refine mm_istore (L' := [(6, .int R9.1), (5, .int 1), (0, .ref b), (1, .ref o8), (2, .ref o9), (3, .ref out), (4, .int i)]) dL_law_351 (by decide) rfl ?_
    refine mm_aload_n (j := 4) dL_law_353 rfl rfl ?_
    refine mm_callVi cd_ok (kX9_thrown o9 (show fX9_thrown o9 R9.2 = some (mm_I R9.2 o9 0, R9.2) from by unfold fX9_thrown mm_sh; rw [if_pos h9b])) h9b rfl (Or.inl tw_933) cdX9_thrown tw_934 tw_935 nmX9_thrown rfl rfl (by simp only [List.map_cons, List.map_nil, mm_rf_cat]; exact Nat.le_of_ble_eq_true rfl) dL_law_354 ⟨Nat.le_of_ble_eq_true rfl, Nat.le_of_ble_eq_true rfl⟩ ⟨by have := hc.1; show ck + 1 + 0 + 0 ≤ 600002; omega, by have := hc.2; show sk + 6 + 0 + 0 ≤ 7302232; omega⟩ ?_
    refine mm_iload (j := 1) dL_law_357 rfl ?_
    refine mm_icmp_eq (tgt := 364) dL_law_359 (by decide) (fun _ => ?_) (fun h => absurd ht h)
    refine mm_iload (j := 1) dL_law_364 rfl ?_
    refine mm_if_ne (tgt := 381) dL_law_366 (by decide) (fun _ => ?_) (fun h => absurd h (by decide))
    refine mm_goto (tgt := 1288) dL_law_381 (by decide) ?_
    refine mm_sub [2, 3, 4, 5, 6] rfl ?_
    refine mm_widen (ck' := ck + 1) (sk' := sk + 6) (by show ck + 1 + 0 + 0 ≤ ck + 1; omega) (by show sk + 6 + 0 + 0 ≤ sk + 6; omega) ?_
    exact kk _ hN
set_option maxHeartbeats 4000000 in
set_option maxRecDepth 100000 in
theorem bL_channel {G : mm_G} {A : Nat → Prop} {b L o8 o9 out : Nat} {xs : Nat → Int32} {i : Int32} {σ : mm_M} {ck sk : Nat} {N : mm_M → Prop} (hi : 0 ≤ i.toInt ∧ i.toInt + 6 ≤ L ∧ L ≤ 4000) (hc : ck + 1 ≤ 600002 ∧ sk + 6 ≤ 7302232) (h8 : σ.2.1 o8 = some (.inl 8)) (hst : lw_step (fun τ => fX8_channel o8 (xs (i + 1).toNatClampNeg) τ) (fun τ => fX9_channel o9 (xs (i + 1).toNatClampNeg) τ) o9 out σ N) (kk : ∀ σ', N σ' → JL G A b L xs 1288 [(0, .ref b), (1, .ref o8), (2, .ref o9), (3, .ref out), (4, .int i)] [] σ' (ck + 1) (sk + 6)) : JL G A b L xs 384 [(0, .ref b), (1, .ref o8), (2, .ref o9), (3, .ref out), (4, .int i)] [] σ ck sk := by
  refine mm_aload_n (j := 1) dL_law_384 rfl rfl ?_
  refine mm_aload_n (j := 0) dL_law_385 rfl rfl ?_
  refine mm_iload (j := 4) dL_law_386 rfl ?_
  refine mm_iconst (v := 1) dL_law_388 (by decide) ?_
  refine mm_iadd dL_law_389 ?_
  refine lw_sld (lw_in hi (by decide)) dL_law_390 ?_
  refine mm_aload_n (j := 3) dL_law_391 rfl rfl ?_
  obtain ⟨Rr, hf8, hso, hs0, hs1⟩ := hst
  refine lw_callH (kL_channel o8 (xs (i + 1).toNatClampNeg) out hf8 h8 hso (by decide)) tw_445 tw_447 tw_0 tw_446 nmL_channel rfl rfl (by simp only [List.map_cons, List.map_nil, mm_rf_cat]; exact Nat.le_of_ble_eq_true rfl) dL_law_392 ⟨Nat.le_of_ble_eq_true rfl, Nat.le_of_ble_eq_true rfl⟩ ⟨by have := hc.1; show ck + 1 ≤ 600002; omega, by have := hc.2; show sk + 6 ≤ 7302232; omega⟩ (fun r hr => ?_) (fun hr z => ?_)
  · obtain ⟨h9, R9, hf9, h9b, ht, hb9, hso9, hlo, hN⟩ := hs0 r hr
    refine mm_istore (L' := [(5, .int 0), (0, .ref b), (1, .ref o8), (2, .ref o9), (3, .ref out), (4, .int i)]) dL_law_395 (by decide) rfl ?_
    refine mm_aload_n (j := 3) dL_law_397 rfl rfl ?_
    refine mm_aload_n (j := 1) dL_law_398 rfl rfl ?_
    refine mm_iload (j := 5) dL_law_399 rfl ?_
    refine mm_iconst (v := 1) dL_law_401 (by decide) ?_
    refine mm_iadd dL_law_402 ?_
    refine lw_sld (lw_in hi (by decide)) dL_law_403 ?_
    refine mm_callVi cd_ok (kX9_channel o9 (xs (i + 1).toNatClampNeg) hf9) h9 rfl (Or.inl tw_1010) cdX9_channel tw_1011 tw_1012 nmX9_channel rfl rfl (by simp only [List.map_cons, List.map_nil, mm_rf_cat]; exact Nat.le_of_ble_eq_true rfl) dL_law_404 ⟨Nat.le_of_ble_eq_true rfl, Nat.le_of_ble_eq_true rfl⟩ ⟨by have := hc.1; show ck + 1 + 0 ≤ 600002; omega, by have := hc.2; show sk + 6 + 0 ≤ 7302232; omega⟩ ?_
    refine mm_istore (L' := [(6, .int R9.1), (5, .int 0), (0, .ref b), (1, .ref o8), (2, .ref o9), (3, .ref out), (4, .int i)]) dL_law_407 (by decide) rfl ?_
    refine mm_aload_n (j := 4) dL_law_409 rfl rfl ?_
    refine mm_callVi cd_ok (kX9_thrown o9 (show fX9_thrown o9 R9.2 = some (mm_I R9.2 o9 0, R9.2) from by unfold fX9_thrown mm_sh; rw [if_pos h9b])) h9b rfl (Or.inl tw_933) cdX9_thrown tw_934 tw_935 nmX9_thrown rfl rfl (by simp only [List.map_cons, List.map_nil, mm_rf_cat]; exact Nat.le_of_ble_eq_true rfl) dL_law_410 ⟨Nat.le_of_ble_eq_true rfl, Nat.le_of_ble_eq_true rfl⟩ ⟨by have := hc.1; show ck + 1 + 0 + 0 ≤ 600002; omega, by have := hc.2; show sk + 6 + 0 + 0 ≤ 7302232; omega⟩ ?_
    refine mm_iload (j := 1) dL_law_413 rfl ?_
    refine mm_icmp_eq (tgt := 420) dL_law_415 (by decide) (fun _ => ?_) (fun h => absurd ht h)
    refine mm_iload (j := 1) dL_law_420 rfl ?_
    refine mm_if_ne (tgt := 437) dL_law_422 (by decide) (fun h => absurd rfl h) (fun _ => ?_)
    refine mm_aload_n (j := 5) dL_law_425 rfl rfl ?_
    refine mm_iconst (v := 0) dL_law_426 (by decide) ?_
    refine mm_lald hso9 rfl (mm_in0 (by decide)) dL_law_427 ?_
    refine mm_iload (j := 0) dL_law_428 rfl ?_
    refine mm_i2l dL_law_430 ?_
    refine lw_lcmp dL_law_431 ?_
    refine mm_if_eq (tgt := 437) dL_law_432 (by decide) (fun _ => ?_) (fun h => absurd (by rw [hlo, hb9]; exact lw_cmp_eq _) h)
    refine mm_goto (tgt := 1288) dL_law_437 (by decide) ?_
    refine mm_sub [2, 3, 4, 5, 6] rfl ?_
    refine mm_widen (ck' := ck + 1) (sk' := sk + 6) (by show ck + 1 + 0 + 0 ≤ ck + 1; omega) (by show sk + 6 + 0 + 0 ≤ sk + 6; omega) ?_
    exact kk _ hN
  · refine lw_lt (fun hlt => ?_)
    obtain ⟨h9, R9, hf9, h9b, ht, hN⟩ := hs1 hr z hlt
    refine mm_istore (L' := [(5, .int 1), (0, .ref b), (1, .ref o8), (2, .ref o9), (3, .ref out), (4, .int i)]) dL_law_395 (by decide) rfl ?_
    refine mm_aload_n (j := 3) dL_law_397 rfl rfl ?_
    refine mm_aload_n (j := 1) dL_law_398 rfl rfl ?_
    refine mm_iload (j := 5) dL_law_399 rfl ?_
    refine mm_iconst (v := 1) dL_law_401 (by decide) ?_
    refine mm_iadd dL_law_402 ?_
    refine lw_sld (lw_in hi (by decide)) dL_law_403 ?_
    refine mm_callVi cd_ok (kX9_channel o9 (xs (i + 1).toNatClampNeg) hf9) h9 rfl (Or.inl tw_1010) cdX9_channel tw_1011 tw_1012 nmX9_channel rfl rfl (by simp only [List.map_cons, List.map_nil, mm_rf_cat]; exact Nat.le_of_ble_eq_true rfl) dL_law_404 ⟨Nat.le_of_ble_eq_true rfl, Nat.le_of_ble_eq_true rfl⟩ ⟨by have := hc.1; show ck + 1 + 0 ≤ 600002; omega, by have := hc.2; show sk + 6 + 0 ≤ 7302232; omega⟩ ?_
    refine mm_istore (L' := [(6, .int R9.1), (5, .int 1), (0, .ref b), (1, .ref o8), (2, .ref o9), (3, .ref out), (4, .int i)]) dL_law_407 (by decide) rfl ?_
    refine mm_aload_n (j := 4) dL_law_409 rfl rfl ?_
    refine mm_callVi cd_ok (kX9_thrown o9 (show fX9_thrown o9 R9.2 = some (mm_I R9.2 o9 0, R9.2) from by unfold fX9_thrown mm_sh; rw [if_pos h9b])) h9b rfl (Or.inl tw_933) cdX9_thrown tw_934 tw_935 nmX9_thrown rfl rfl (by simp only [List.map_cons, List.map_nil, mm_rf_cat]; exact Nat.le_of_ble_eq_true rfl) dL_law_410 ⟨Nat.le_of_ble_eq_true rfl, Nat.le_of_ble_eq_true rfl⟩ ⟨by have := hc.1; show ck + 1 + 0 + 0 ≤ 600002; omega, by have := hc.2; show sk + 6 + 0 + 0 ≤ 7302232; omega⟩ ?_
    refine mm_iload (j := 1) dL_law_413 rfl ?_
    refine mm_icmp_eq (tgt := 420) dL_law_415 (by decide) (fun _ => ?_) (fun h => absurd ht h)
    refine mm_iload (j := 1) dL_law_420 rfl ?_
    refine mm_if_ne (tgt := 437) dL_law_422 (by decide) (fun _ => ?_) (fun h => absurd h (by decide))
    refine mm_goto (tgt := 1288) dL_law_437 (by decide) ?_
    refine mm_sub [2, 3, 4, 5, 6] rfl ?_
    refine mm_widen (ck' := ck + 1) (sk' := sk + 6) (by show ck + 1 + 0 + 0 ≤ ck + 1; omega) (by show sk + 6 + 0 + 0 ≤ sk + 6; omega) ?_
    exact kk _ hN
set_option maxHeartbeats 4000000 in
set_option maxRecDepth 100000 in
theorem bL_guarded {G : mm_G} {A : Nat → Prop} {b L o8 o9 out : Nat} {xs : Nat → Int32} {i : Int32} {σ : mm_M} {ck sk : Nat} {N : mm_M → Prop} (hi : 0 ≤ i.toInt ∧ i.toInt + 6 ≤ L ∧ L ≤ 4000) (hc : ck + 0 ≤ 600002 ∧ sk + 0 ≤ 7302232) (h8 : σ.2.1 o8 = some (.inl 8)) (hst : lw_stepI (fun τ => fX8_guarded o8 (xs (i + 1).toNatClampNeg) τ) (fun τ => fX9_guarded o9 (xs (i + 1).toNatClampNeg) τ) o9 σ N) (kk : ∀ σ', N σ' → JL G A b L xs 1288 [(0, .ref b), (1, .ref o8), (2, .ref o9), (3, .ref out), (4, .int i)] [] σ' (ck + 0) (sk + 0)) : JL G A b L xs 440 [(0, .ref b), (1, .ref o8), (2, .ref o9), (3, .ref out), (4, .int i)] [] σ ck sk := by
  refine mm_aload_n (j := 1) dL_law_440 rfl rfl ?_
  refine mm_aload_n (j := 0) dL_law_441 rfl rfl ?_
  refine mm_iload (j := 4) dL_law_442 rfl ?_
  refine mm_iconst (v := 1) dL_law_444 (by decide) ?_
  refine mm_iadd dL_law_445 ?_
  refine lw_sld (lw_in hi (by decide)) dL_law_446 ?_
  obtain ⟨R8, hf8, h9, R9, hf9, hb9, hN⟩ := hst
  refine mm_callVi cd_ok (kX8_guarded o8 (xs (i + 1).toNatClampNeg) hf8) h8 rfl (Or.inl tw_183) cdX8_guarded tw_184 tw_185 nmX8_guarded rfl rfl (by simp only [List.map_cons, List.map_nil, mm_rf_cat]; exact Nat.le_of_ble_eq_true rfl) dL_law_447 ⟨Nat.le_of_ble_eq_true rfl, Nat.le_of_ble_eq_true rfl⟩ ⟨by have := hc.1; show ck + 0 ≤ 600002; omega, by have := hc.2; show sk + 0 ≤ 7302232; omega⟩ ?_
  refine mm_aload_n (j := 2) dL_law_450 rfl rfl ?_
  refine mm_aload_n (j := 0) dL_law_451 rfl rfl ?_
  refine mm_iload (j := 4) dL_law_452 rfl ?_
  refine mm_iconst (v := 1) dL_law_454 (by decide) ?_
  refine mm_iadd dL_law_455 ?_
  refine lw_sld (lw_in hi (by decide)) dL_law_456 ?_
  refine mm_callVi cd_ok (kX9_guarded o9 (xs (i + 1).toNatClampNeg) hf9) h9 rfl (Or.inl tw_1014) cdX9_guarded tw_1015 tw_1016 nmX9_guarded rfl rfl (by simp only [List.map_cons, List.map_nil, mm_rf_cat]; exact Nat.le_of_ble_eq_true rfl) dL_law_457 ⟨Nat.le_of_ble_eq_true rfl, Nat.le_of_ble_eq_true rfl⟩ ⟨by have := hc.1; show ck + 0 + 0 ≤ 600002; omega, by have := hc.2; show sk + 0 + 0 ≤ 7302232; omega⟩ ?_
  refine mm_icmp_eq (tgt := 1288) dL_law_460 (by decide) (fun _ => ?_) (fun h => absurd hb9.symm h)
  refine mm_sub [0, 1, 2, 3, 4] rfl ?_
  refine mm_widen (ck' := ck + 0) (sk' := sk + 0) (by show ck + 0 + 0 ≤ ck + 0; omega) (by show sk + 0 + 0 ≤ sk + 0; omega) ?_
  exact kk _ hN
set_option maxHeartbeats 4000000 in
set_option maxRecDepth 100000 in
theorem bL_feed {G : mm_G} {A : Nat → Prop} {b L o8 o9 out : Nat} {xs : Nat → Int32} {i : Int32} {σ : mm_M} {ck sk : Nat} {N : mm_M → Prop} (hi : 0 ≤ i.toInt ∧ i.toInt + 6 ≤ L ∧ L ≤ 4000) (hc : ck + 1 ≤ 600002 ∧ sk + 6 ≤ 7302232) (h8 : σ.2.1 o8 = some (.inl 8)) (hst : lw_step (fun τ => fX8_feed o8 (xs (i + 1).toNatClampNeg) (xs (i + 2).toNatClampNeg) (xs (i + 3).toNatClampNeg) (xs (i + 4).toNatClampNeg) (xs (i + 5).toNatClampNeg) τ) (fun τ => fX9_feed o9 (xs (i + 1).toNatClampNeg) (xs (i + 2).toNatClampNeg) (xs (i + 3).toNatClampNeg) (xs (i + 4).toNatClampNeg) (xs (i + 5).toNatClampNeg) τ) o9 out σ N) (kk : ∀ σ', N σ' → JL G A b L xs 1288 [(0, .ref b), (1, .ref o8), (2, .ref o9), (3, .ref out), (4, .int i)] [] σ' (ck + 1) (sk + 6)) : JL G A b L xs 465 [(0, .ref b), (1, .ref o8), (2, .ref o9), (3, .ref out), (4, .int i)] [] σ ck sk := by
  refine mm_aload_n (j := 1) dL_law_465 rfl rfl ?_
  refine mm_aload_n (j := 0) dL_law_466 rfl rfl ?_
  refine mm_iload (j := 4) dL_law_467 rfl ?_
  refine mm_iconst (v := 1) dL_law_469 (by decide) ?_
  refine mm_iadd dL_law_470 ?_
  refine lw_sld (lw_in hi (by decide)) dL_law_471 ?_
  refine mm_aload_n (j := 0) dL_law_472 rfl rfl ?_
  refine mm_iload (j := 4) dL_law_473 rfl ?_
  refine mm_iconst (v := 2) dL_law_475 (by decide) ?_
  refine mm_iadd dL_law_476 ?_
  refine lw_sld (lw_in hi (by decide)) dL_law_477 ?_
  refine mm_aload_n (j := 0) dL_law_478 rfl rfl ?_
  refine mm_iload (j := 4) dL_law_479 rfl ?_
  refine mm_iconst (v := 3) dL_law_481 (by decide) ?_
  refine mm_iadd dL_law_482 ?_
  refine lw_sld (lw_in hi (by decide)) dL_law_483 ?_
  refine mm_aload_n (j := 0) dL_law_484 rfl rfl ?_
  refine mm_iload (j := 4) dL_law_485 rfl ?_
  refine mm_iconst (v := 4) dL_law_487 (by decide) ?_
  refine mm_iadd dL_law_488 ?_
  refine lw_sld (lw_in hi (by decide)) dL_law_489 ?_
  refine mm_aload_n (j := 0) dL_law_490 rfl rfl ?_
  refine mm_iload (j := 4) dL_law_491 rfl ?_
  refine mm_iconst (v := 5) dL_law_493 (by decide) ?_
  refine mm_iadd dL_law_494 ?_
  refine lw_sld (lw_in hi (by decide)) dL_law_495 ?_
  refine mm_aload_n (j := 3) dL_law_496 rfl rfl ?_
  obtain ⟨Rr, hf8, hso, hs0, hs1⟩ := hst
  refine lw_callH (kL_feed o8 (xs (i + 1).toNatClampNeg) (xs (i + 2).toNatClampNeg) (xs (i + 3).toNatClampNeg) (xs (i + 4).toNatClampNeg) (xs (i + 5).toNatClampNeg) out hf8 h8 hso (by decide)) tw_452 tw_454 tw_0 tw_453 nmL_feed rfl rfl (by simp only [List.map_cons, List.map_nil, mm_rf_cat]; exact Nat.le_of_ble_eq_true rfl) dL_law_497 ⟨Nat.le_of_ble_eq_true rfl, Nat.le_of_ble_eq_true rfl⟩ ⟨by have := hc.1; show ck + 1 ≤ 600002; omega, by have := hc.2; show sk + 6 ≤ 7302232; omega⟩ (fun r hr => ?_) (fun hr z => ?_)
  · obtain ⟨h9, R9, hf9, h9b, ht, hb9, hso9, hlo, hN⟩ := hs0 r hr
    refine mm_istore (L' := [(5, .int 0), (0, .ref b), (1, .ref o8), (2, .ref o9), (3, .ref out), (4, .int i)]) dL_law_500 (by decide) rfl ?_
    refine mm_aload_n (j := 3) dL_law_502 rfl rfl ?_
    refine mm_aload_n (j := 1) dL_law_503 rfl rfl ?_
    refine mm_iload (j := 5) dL_law_504 rfl ?_
    refine mm_iconst (v := 1) dL_law_506 (by decide) ?_
    refine mm_iadd dL_law_507 ?_
    refine lw_sld (lw_in hi (by decide)) dL_law_508 ?_
    refine mm_aload_n (j := 1) dL_law_509 rfl rfl ?_
    refine mm_iload (j := 5) dL_law_510 rfl ?_
    refine mm_iconst (v := 2) dL_law_512 (by decide) ?_
    refine mm_iadd dL_law_513 ?_
    refine lw_sld (lw_in hi (by decide)) dL_law_514 ?_
    refine mm_aload_n (j := 1) dL_law_515 rfl rfl ?_
    refine mm_iload (j := 5) dL_law_516 rfl ?_
    refine mm_iconst (v := 3) dL_law_518 (by decide) ?_
    refine mm_iadd dL_law_519 ?_
    refine lw_sld (lw_in hi (by decide)) dL_law_520 ?_
    refine mm_aload_n (j := 1) dL_law_521 rfl rfl ?_
    refine mm_iload (j := 5) dL_law_522 rfl ?_
    refine mm_iconst (v := 4) dL_law_524 (by decide) ?_
    refine mm_iadd dL_law_525 ?_
    refine lw_sld (lw_in hi (by decide)) dL_law_526 ?_
    refine mm_aload_n (j := 1) dL_law_527 rfl rfl ?_
    refine mm_iload (j := 5) dL_law_528 rfl ?_
    refine mm_iconst (v := 5) dL_law_530 (by decide) ?_
    refine mm_iadd dL_law_531 ?_
    refine lw_sld (lw_in hi (by decide)) dL_law_532 ?_
    refine mm_callVi cd_ok (kX9_feed o9 (xs (i + 1).toNatClampNeg) (xs (i + 2).toNatClampNeg) (xs (i + 3).toNatClampNeg) (xs (i + 4).toNatClampNeg) (xs (i + 5).toNatClampNeg) hf9) h9 rfl (Or.inl tw_1027) cdX9_feed tw_1028 tw_1029 nmX9_feed rfl rfl (by simp only [List.map_cons, List.map_nil, mm_rf_cat]; exact Nat.le_of_ble_eq_true rfl) dL_law_533 ⟨Nat.le_of_ble_eq_true rfl, Nat.le_of_ble_eq_true rfl⟩ ⟨by have := hc.1; show ck + 1 + 0 ≤ 600002; omega, by have := hc.2; show sk + 6 + 0 ≤ 7302232; omega⟩ ?_
    refine mm_istore (L' := [(6, .int R9.1), (5, .int 0), (0, .ref b), (1, .ref o8), (2, .ref o9), (3, .ref out), (4, .int i)]) dL_law_536 (by decide) rfl ?_
    refine mm_aload_n (j := 4) dL_law_538 rfl rfl ?_
    refine mm_callVi cd_ok (kX9_thrown o9 (show fX9_thrown o9 R9.2 = some (mm_I R9.2 o9 0, R9.2) from by unfold fX9_thrown mm_sh; rw [if_pos h9b])) h9b rfl (Or.inl tw_933) cdX9_thrown tw_934 tw_935 nmX9_thrown rfl rfl (by simp only [List.map_cons, List.map_nil, mm_rf_cat]; exact Nat.le_of_ble_eq_true rfl) dL_law_539 ⟨Nat.le_of_ble_eq_true rfl, Nat.le_of_ble_eq_true rfl⟩ ⟨by have := hc.1; show ck + 1 + 0 + 0 ≤ 600002; omega, by have := hc.2; show sk + 6 + 0 + 0 ≤ 7302232; omega⟩ ?_
    refine mm_iload (j := 1) dL_law_542 rfl ?_
    refine mm_icmp_eq (tgt := 549) dL_law_544 (by decide) (fun _ => ?_) (fun h => absurd ht h)
    refine mm_iload (j := 1) dL_law_549 rfl ?_
    refine mm_if_ne (tgt := 566) dL_law_551 (by decide) (fun h => absurd rfl h) (fun _ => ?_)
    refine mm_aload_n (j := 5) dL_law_554 rfl rfl ?_
    refine mm_iconst (v := 0) dL_law_555 (by decide) ?_
    refine mm_lald hso9 rfl (mm_in0 (by decide)) dL_law_556 ?_
    refine mm_iload (j := 0) dL_law_557 rfl ?_
    refine mm_i2l dL_law_559 ?_
    refine lw_lcmp dL_law_560 ?_
    refine mm_if_eq (tgt := 566) dL_law_561 (by decide) (fun _ => ?_) (fun h => absurd (by rw [hlo, hb9]; exact lw_cmp_eq _) h)
    refine mm_goto (tgt := 1288) dL_law_566 (by decide) ?_
    refine mm_sub [2, 3, 4, 5, 6] rfl ?_
    refine mm_widen (ck' := ck + 1) (sk' := sk + 6) (by show ck + 1 + 0 + 0 ≤ ck + 1; omega) (by show sk + 6 + 0 + 0 ≤ sk + 6; omega) ?_
    exact kk _ hN
  · refine lw_lt (fun hlt => ?_)
    obtain ⟨h9, R9, hf9, h9b, ht, hN⟩ := hs1 hr z hlt
    refine mm_istore (L' := [(5, .int 1), (0, .ref b), (1, .ref o8), (2, .ref o9), (3, .ref out), (4, .int i)]) dL_law_500 (by decide) rfl ?_
    refine mm_aload_n (j := 3) dL_law_502 rfl rfl ?_
    refine mm_aload_n (j := 1) dL_law_503 rfl rfl ?_
    refine mm_iload (j := 5) dL_law_504 rfl ?_
    refine mm_iconst (v := 1) dL_law_506 (by decide) ?_
    refine mm_iadd dL_law_507 ?_
    refine lw_sld (lw_in hi (by decide)) dL_law_508 ?_
    refine mm_aload_n (j := 1) dL_law_509 rfl rfl ?_
    refine mm_iload (j := 5) dL_law_510 rfl ?_
    refine mm_iconst (v := 2) dL_law_512 (by decide) ?_
    refine mm_iadd dL_law_513 ?_
    refine lw_sld (lw_in hi (by decide)) dL_law_514 ?_
    refine mm_aload_n (j := 1) dL_law_515 rfl rfl ?_
    refine mm_iload (j := 5) dL_law_516 rfl ?_
    refine mm_iconst (v := 3) dL_law_518 (by decide) ?_
    refine mm_iadd dL_law_519 ?_
    refine lw_sld (lw_in hi (by decide)) dL_law_520 ?_
    refine mm_aload_n (j := 1) dL_law_521 rfl rfl ?_
    refine mm_iload (j := 5) dL_law_522 rfl ?_
    refine mm_iconst (v := 4) dL_law_524 (by decide) ?_
    refine mm_iadd dL_law_525 ?_
    refine lw_sld (lw_in hi (by decide)) dL_law_526 ?_
    refine mm_aload_n (j := 1) dL_law_527 rfl rfl ?_
    refine mm_iload (j := 5) dL_law_528 rfl ?_
    refine mm_iconst (v := 5) dL_law_530 (by decide) ?_
    refine mm_iadd dL_law_531 ?_
    refine lw_sld (lw_in hi (by decide)) dL_law_532 ?_
    refine mm_callVi cd_ok (kX9_feed o9 (xs (i + 1).toNatClampNeg) (xs (i + 2).toNatClampNeg) (xs (i + 3).toNatClampNeg) (xs (i + 4).toNatClampNeg) (xs (i + 5).toNatClampNeg) hf9) h9 rfl (Or.inl tw_1027) cdX9_feed tw_1028 tw_1029 nmX9_feed rfl rfl (by simp only [List.map_cons, List.map_nil, mm_rf_cat]; exact Nat.le_of_ble_eq_true rfl) dL_law_533 ⟨Nat.le_of_ble_eq_true rfl, Nat.le_of_ble_eq_true rfl⟩ ⟨by have := hc.1; show ck + 1 + 0 ≤ 600002; omega, by have := hc.2; show sk + 6 + 0 ≤ 7302232; omega⟩ ?_
    refine mm_istore (L' := [(6, .int R9.1), (5, .int 1), (0, .ref b), (1, .ref o8), (2, .ref o9), (3, .ref out), (4, .int i)]) dL_law_536 (by decide) rfl ?_
    refine mm_aload_n (j := 4) dL_law_538 rfl rfl ?_
    refine mm_callVi cd_ok (kX9_thrown o9 (show fX9_thrown o9 R9.2 = some (mm_I R9.2 o9 0, R9.2) from by unfold fX9_thrown mm_sh; rw [if_pos h9b])) h9b rfl (Or.inl tw_933) cdX9_thrown tw_934 tw_935 nmX9_thrown rfl rfl (by simp only [List.map_cons, List.map_nil, mm_rf_cat]; exact Nat.le_of_ble_eq_true rfl) dL_law_539 ⟨Nat.le_of_ble_eq_true rfl, Nat.le_of_ble_eq_true rfl⟩ ⟨by have := hc.1; show ck + 1 + 0 + 0 ≤ 600002; omega, by have := hc.2; show sk + 6 + 0 + 0 ≤ 7302232; omega⟩ ?_
    refine mm_iload (j := 1) dL_law_542 rfl ?_
    refine mm_icmp_eq (tgt := 549) dL_law_544 (by decide) (fun _ => ?_) (fun h => absurd ht h)
    refine mm_iload (j := 1) dL_law_549 rfl ?_
    refine mm_if_ne (tgt := 566) dL_law_551 (by decide) (fun _ => ?_) (fun h => absurd h (by decide))
    refine mm_goto (tgt := 1288) dL_law_566 (by decide) ?_
    refine mm_sub [2, 3, 4, 5, 6] rfl ?_
    refine mm_widen (ck' := ck + 1) (sk' := sk + 6) (by show ck + 1 + 0 + 0 ≤ ck + 1; omega) (by show sk + 6 + 0 + 0 ≤ sk + 6; omega) ?_
    exact kk _ hN
set_option maxHeartbeats 4000000 in
set_option maxRecDepth 100000 in
theorem bL_packet {G : mm_G} {A : Nat → Prop} {b L o8 o9 out : Nat} {xs : Nat → Int32} {i : Int32} {σ : mm_M} {ck sk : Nat} {N : mm_M → Prop} (hi : 0 ≤ i.toInt ∧ i.toInt + 6 ≤ L ∧ L ≤ 4000) (hc : ck + 5 ≤ 600002 ∧ sk + 1054 ≤ 7302232) (h8 : σ.2.1 o8 = some (.inl 8)) (hst : lw_step (fun τ => fX8_packet o8  τ) (fun τ => fX9_packet o9  τ) o9 out σ N) (kk : ∀ σ', N σ' → JL G A b L xs 1288 [(0, .ref b), (1, .ref o8), (2, .ref o9), (3, .ref out), (4, .int i)] [] σ' (ck + 5) (sk + 1054)) : JL G A b L xs 569 [(0, .ref b), (1, .ref o8), (2, .ref o9), (3, .ref out), (4, .int i)] [] σ ck sk := by
  refine mm_aload_n (j := 1) dL_law_569 rfl rfl ?_
  refine mm_aload_n (j := 3) dL_law_570 rfl rfl ?_
  obtain ⟨Rr, hf8, hso, hs0, hs1⟩ := hst
  refine lw_callH (kL_packet o8 out hf8 h8 hso (by decide)) tw_480 tw_482 tw_0 tw_481 nmL_packet rfl rfl (by simp only [List.map_cons, List.map_nil, mm_rf_cat]; exact Nat.le_of_ble_eq_true rfl) dL_law_571 ⟨Nat.le_of_ble_eq_true rfl, Nat.le_of_ble_eq_true rfl⟩ ⟨by have := hc.1; show ck + 5 ≤ 600002; omega, by have := hc.2; show sk + 1054 ≤ 7302232; omega⟩ (fun r hr => ?_) (fun hr z => ?_)
  · obtain ⟨h9, R9, hf9, h9b, ht, hb9, hso9, hlo, hN⟩ := hs0 r hr
    refine mm_istore (L' := [(5, .int 0), (0, .ref b), (1, .ref o8), (2, .ref o9), (3, .ref out), (4, .int i)]) dL_law_574 (by decide) rfl ?_
    refine mm_aload_n (j := 3) dL_law_576 rfl rfl ?_
    refine mm_callVi cd_ok (kX9_packet o9 hf9) h9 rfl (Or.inl tw_1031) cdX9_packet tw_1032 tw_1033 nmX9_packet rfl rfl (by simp only [List.map_cons, List.map_nil, mm_rf_cat]; exact Nat.le_of_ble_eq_true rfl) dL_law_577 ⟨Nat.le_of_ble_eq_true rfl, Nat.le_of_ble_eq_true rfl⟩ ⟨by have := hc.1; show ck + 5 + 0 ≤ 600002; omega, by have := hc.2; show sk + 1054 + 0 ≤ 7302232; omega⟩ ?_
    refine mm_istore (L' := [(6, .int R9.1), (5, .int 0), (0, .ref b), (1, .ref o8), (2, .ref o9), (3, .ref out), (4, .int i)]) dL_law_580 (by decide) rfl ?_
    refine mm_aload_n (j := 4) dL_law_582 rfl rfl ?_
    refine mm_callVi cd_ok (kX9_thrown o9 (show fX9_thrown o9 R9.2 = some (mm_I R9.2 o9 0, R9.2) from by unfold fX9_thrown mm_sh; rw [if_pos h9b])) h9b rfl (Or.inl tw_933) cdX9_thrown tw_934 tw_935 nmX9_thrown rfl rfl (by simp only [List.map_cons, List.map_nil, mm_rf_cat]; exact Nat.le_of_ble_eq_true rfl) dL_law_583 ⟨Nat.le_of_ble_eq_true rfl, Nat.le_of_ble_eq_true rfl⟩ ⟨by have := hc.1; show ck + 5 + 0 + 0 ≤ 600002; omega, by have := hc.2; show sk + 1054 + 0 + 0 ≤ 7302232; omega⟩ ?_
    refine mm_iload (j := 1) dL_law_586 rfl ?_
    refine mm_icmp_eq (tgt := 593) dL_law_588 (by decide) (fun _ => ?_) (fun h => absurd ht h)
    refine mm_iload (j := 1) dL_law_593 rfl ?_
    refine mm_if_ne (tgt := 610) dL_law_595 (by decide) (fun h => absurd rfl h) (fun _ => ?_)
    refine mm_aload_n (j := 5) dL_law_598 rfl rfl ?_
    refine mm_iconst (v := 0) dL_law_599 (by decide) ?_
    refine mm_lald hso9 rfl (mm_in0 (by decide)) dL_law_600 ?_
    refine mm_iload (j := 0) dL_law_601 rfl ?_
    refine mm_i2l dL_law_603 ?_
    refine lw_lcmp dL_law_604 ?_
    refine mm_if_eq (tgt := 610) dL_law_605 (by decide) (fun _ => ?_) (fun h => absurd (by rw [hlo, hb9]; exact lw_cmp_eq _) h)
    refine mm_goto (tgt := 1288) dL_law_610 (by decide) ?_
    refine mm_sub [2, 3, 4, 5, 6] rfl ?_
    refine mm_widen (ck' := ck + 5) (sk' := sk + 1054) (by show ck + 5 + 0 + 0 ≤ ck + 5; omega) (by show sk + 1054 + 0 + 0 ≤ sk + 1054; omega) ?_
    exact kk _ hN
  · refine lw_lt (fun hlt => ?_)
    obtain ⟨h9, R9, hf9, h9b, ht, hN⟩ := hs1 hr z hlt
    refine mm_istore (L' := [(5, .int 1), (0, .ref b), (1, .ref o8), (2, .ref o9), (3, .ref out), (4, .int i)]) dL_law_574 (by decide) rfl ?_
    refine mm_aload_n (j := 3) dL_law_576 rfl rfl ?_
    refine mm_callVi cd_ok (kX9_packet o9 hf9) h9 rfl (Or.inl tw_1031) cdX9_packet tw_1032 tw_1033 nmX9_packet rfl rfl (by simp only [List.map_cons, List.map_nil, mm_rf_cat]; exact Nat.le_of_ble_eq_true rfl) dL_law_577 ⟨Nat.le_of_ble_eq_true rfl, Nat.le_of_ble_eq_true rfl⟩ ⟨by have := hc.1; show ck + 5 + 0 ≤ 600002; omega, by have := hc.2; show sk + 1054 + 0 ≤ 7302232; omega⟩ ?_
    refine mm_istore (L' := [(6, .int R9.1), (5, .int 1), (0, .ref b), (1, .ref o8), (2, .ref o9), (3, .ref out), (4, .int i)]) dL_law_580 (by decide) rfl ?_
    refine mm_aload_n (j := 4) dL_law_582 rfl rfl ?_
    refine mm_callVi cd_ok (kX9_thrown o9 (show fX9_thrown o9 R9.2 = some (mm_I R9.2 o9 0, R9.2) from by unfold fX9_thrown mm_sh; rw [if_pos h9b])) h9b rfl (Or.inl tw_933) cdX9_thrown tw_934 tw_935 nmX9_thrown rfl rfl (by simp only [List.map_cons, List.map_nil, mm_rf_cat]; exact Nat.le_of_ble_eq_true rfl) dL_law_583 ⟨Nat.le_of_ble_eq_true rfl, Nat.le_of_ble_eq_true rfl⟩ ⟨by have := hc.1; show ck + 5 + 0 + 0 ≤ 600002; omega, by have := hc.2; show sk + 1054 + 0 + 0 ≤ 7302232; omega⟩ ?_
    refine mm_iload (j := 1) dL_law_586 rfl ?_
    refine mm_icmp_eq (tgt := 593) dL_law_588 (by decide) (fun _ => ?_) (fun h => absurd ht h)
    refine mm_iload (j := 1) dL_law_593 rfl ?_
    refine mm_if_ne (tgt := 610) dL_law_595 (by decide) (fun _ => ?_) (fun h => absurd h (by decide))
    refine mm_goto (tgt := 1288) dL_law_610 (by decide) ?_
    refine mm_sub [2, 3, 4, 5, 6] rfl ?_
    refine mm_widen (ck' := ck + 5) (sk' := sk + 1054) (by show ck + 5 + 0 + 0 ≤ ck + 5; omega) (by show sk + 1054 + 0 + 0 ≤ sk + 1054; omega) ?_
    exact kk _ hN
set_option maxHeartbeats 4000000 in
set_option maxRecDepth 100000 in
theorem bL_nothing {G : mm_G} {A : Nat → Prop} {b L o8 o9 out : Nat} {xs : Nat → Int32} {i : Int32} {σ : mm_M} {ck sk : Nat} {N : mm_M → Prop} (hi : 0 ≤ i.toInt ∧ i.toInt + 6 ≤ L ∧ L ≤ 4000) (hc : ck + 1 ≤ 600002 ∧ sk + 6 ≤ 7302232) (h8 : σ.2.1 o8 = some (.inl 8)) (hst : lw_step (fun τ => fX8_nothing o8 (xs (i + 1).toNatClampNeg) τ) (fun τ => fX9_nothing o9 (xs (i + 1).toNatClampNeg) τ) o9 out σ N) (kk : ∀ σ', N σ' → JL G A b L xs 1288 [(0, .ref b), (1, .ref o8), (2, .ref o9), (3, .ref out), (4, .int i)] [] σ' (ck + 1) (sk + 6)) : JL G A b L xs 613 [(0, .ref b), (1, .ref o8), (2, .ref o9), (3, .ref out), (4, .int i)] [] σ ck sk := by
  refine mm_aload_n (j := 1) dL_law_613 rfl rfl ?_
  refine mm_aload_n (j := 0) dL_law_614 rfl rfl ?_
  refine mm_iload (j := 4) dL_law_615 rfl ?_
  refine mm_iconst (v := 1) dL_law_617 (by decide) ?_
  refine mm_iadd dL_law_618 ?_
  refine lw_sld (lw_in hi (by decide)) dL_law_619 ?_
  refine mm_aload_n (j := 3) dL_law_620 rfl rfl ?_
  obtain ⟨Rr, hf8, hso, hs0, hs1⟩ := hst
  refine lw_callH (kL_nothing o8 (xs (i + 1).toNatClampNeg) out hf8 h8 hso (by decide)) tw_622 tw_624 tw_0 tw_623 nmL_nothing rfl rfl (by simp only [List.map_cons, List.map_nil, mm_rf_cat]; exact Nat.le_of_ble_eq_true rfl) dL_law_621 ⟨Nat.le_of_ble_eq_true rfl, Nat.le_of_ble_eq_true rfl⟩ ⟨by have := hc.1; show ck + 1 ≤ 600002; omega, by have := hc.2; show sk + 6 ≤ 7302232; omega⟩ (fun r hr => ?_) (fun hr z => ?_)
  · obtain ⟨h9, R9, hf9, h9b, ht, hb9, hso9, hlo, hN⟩ := hs0 r hr
    refine mm_istore (L' := [(5, .int 0), (0, .ref b), (1, .ref o8), (2, .ref o9), (3, .ref out), (4, .int i)]) dL_law_624 (by decide) rfl ?_
    refine mm_aload_n (j := 3) dL_law_626 rfl rfl ?_
    refine mm_aload_n (j := 1) dL_law_627 rfl rfl ?_
    refine mm_iload (j := 5) dL_law_628 rfl ?_
    refine mm_iconst (v := 1) dL_law_630 (by decide) ?_
    refine mm_iadd dL_law_631 ?_
    refine lw_sld (lw_in hi (by decide)) dL_law_632 ?_
    refine mm_callVi cd_ok (kX9_nothing o9 (xs (i + 1).toNatClampNeg) hf9) h9 rfl (Or.inl tw_1073) cdX9_nothing tw_1074 tw_1075 nmX9_nothing rfl rfl (by simp only [List.map_cons, List.map_nil, mm_rf_cat]; exact Nat.le_of_ble_eq_true rfl) dL_law_633 ⟨Nat.le_of_ble_eq_true rfl, Nat.le_of_ble_eq_true rfl⟩ ⟨by have := hc.1; show ck + 1 + 0 ≤ 600002; omega, by have := hc.2; show sk + 6 + 0 ≤ 7302232; omega⟩ ?_
    refine mm_istore (L' := [(6, .int R9.1), (5, .int 0), (0, .ref b), (1, .ref o8), (2, .ref o9), (3, .ref out), (4, .int i)]) dL_law_636 (by decide) rfl ?_
    refine mm_aload_n (j := 4) dL_law_638 rfl rfl ?_
    refine mm_callVi cd_ok (kX9_thrown o9 (show fX9_thrown o9 R9.2 = some (mm_I R9.2 o9 0, R9.2) from by unfold fX9_thrown mm_sh; rw [if_pos h9b])) h9b rfl (Or.inl tw_933) cdX9_thrown tw_934 tw_935 nmX9_thrown rfl rfl (by simp only [List.map_cons, List.map_nil, mm_rf_cat]; exact Nat.le_of_ble_eq_true rfl) dL_law_639 ⟨Nat.le_of_ble_eq_true rfl, Nat.le_of_ble_eq_true rfl⟩ ⟨by have := hc.1; show ck + 1 + 0 + 0 ≤ 600002; omega, by have := hc.2; show sk + 6 + 0 + 0 ≤ 7302232; omega⟩ ?_
    refine mm_iload (j := 1) dL_law_642 rfl ?_
    refine mm_icmp_eq (tgt := 649) dL_law_644 (by decide) (fun _ => ?_) (fun h => absurd ht h)
    refine mm_iload (j := 1) dL_law_649 rfl ?_
    refine mm_if_ne (tgt := 666) dL_law_651 (by decide) (fun h => absurd rfl h) (fun _ => ?_)
    refine mm_aload_n (j := 5) dL_law_654 rfl rfl ?_
    refine mm_iconst (v := 0) dL_law_655 (by decide) ?_
    refine mm_lald hso9 rfl (mm_in0 (by decide)) dL_law_656 ?_
    refine mm_iload (j := 0) dL_law_657 rfl ?_
    refine mm_i2l dL_law_659 ?_
    refine lw_lcmp dL_law_660 ?_
    refine mm_if_eq (tgt := 666) dL_law_661 (by decide) (fun _ => ?_) (fun h => absurd (by rw [hlo, hb9]; exact lw_cmp_eq _) h)
    refine mm_goto (tgt := 1288) dL_law_666 (by decide) ?_
    refine mm_sub [2, 3, 4, 5, 6] rfl ?_
    refine mm_widen (ck' := ck + 1) (sk' := sk + 6) (by show ck + 1 + 0 + 0 ≤ ck + 1; omega) (by show sk + 6 + 0 + 0 ≤ sk + 6; omega) ?_
    exact kk _ hN
  · refine lw_lt (fun hlt => ?_)
    obtain ⟨h9, R9, hf9, h9b, ht, hN⟩ := hs1 hr z hlt
    refine mm_istore (L' := [(5, .int 1), (0, .ref b), (1, .ref o8), (2, .ref o9), (3, .ref out), (4, .int i)]) dL_law_624 (by decide) rfl ?_
    refine mm_aload_n (j := 3) dL_law_626 rfl rfl ?_
    refine mm_aload_n (j := 1) dL_law_627 rfl rfl ?_
    refine mm_iload (j := 5) dL_law_628 rfl ?_
    refine mm_iconst (v := 1) dL_law_630 (by decide) ?_
    refine mm_iadd dL_law_631 ?_
    refine lw_sld (lw_in hi (by decide)) dL_law_632 ?_
    refine mm_callVi cd_ok (kX9_nothing o9 (xs (i + 1).toNatClampNeg) hf9) h9 rfl (Or.inl tw_1073) cdX9_nothing tw_1074 tw_1075 nmX9_nothing rfl rfl (by simp only [List.map_cons, List.map_nil, mm_rf_cat]; exact Nat.le_of_ble_eq_true rfl) dL_law_633 ⟨Nat.le_of_ble_eq_true rfl, Nat.le_of_ble_eq_true rfl⟩ ⟨by have := hc.1; show ck + 1 + 0 ≤ 600002; omega, by have := hc.2; show sk + 6 + 0 ≤ 7302232; omega⟩ ?_
    refine mm_istore (L' := [(6, .int R9.1), (5, .int 1), (0, .ref b), (1, .ref o8), (2, .ref o9), (3, .ref out), (4, .int i)]) dL_law_636 (by decide) rfl ?_
    refine mm_aload_n (j := 4) dL_law_638 rfl rfl ?_
    refine mm_callVi cd_ok (kX9_thrown o9 (show fX9_thrown o9 R9.2 = some (mm_I R9.2 o9 0, R9.2) from by unfold fX9_thrown mm_sh; rw [if_pos h9b])) h9b rfl (Or.inl tw_933) cdX9_thrown tw_934 tw_935 nmX9_thrown rfl rfl (by simp only [List.map_cons, List.map_nil, mm_rf_cat]; exact Nat.le_of_ble_eq_true rfl) dL_law_639 ⟨Nat.le_of_ble_eq_true rfl, Nat.le_of_ble_eq_true rfl⟩ ⟨by have := hc.1; show ck + 1 + 0 + 0 ≤ 600002; omega, by have := hc.2; show sk + 6 + 0 + 0 ≤ 7302232; omega⟩ ?_
    refine mm_iload (j := 1) dL_law_642 rfl ?_
    refine mm_icmp_eq (tgt := 649) dL_law_644 (by decide) (fun _ => ?_) (fun h => absurd ht h)
    refine mm_iload (j := 1) dL_law_649 rfl ?_
    refine mm_if_ne (tgt := 666) dL_law_651 (by decide) (fun _ => ?_) (fun h => absurd h (by decide))
    refine mm_goto (tgt := 1288) dL_law_666 (by decide) ?_
    refine mm_sub [2, 3, 4, 5, 6] rfl ?_
    refine mm_widen (ck' := ck + 1) (sk' := sk + 6) (by show ck + 1 + 0 + 0 ≤ ck + 1; omega) (by show sk + 6 + 0 + 0 ≤ sk + 6; omega) ?_
    exact kk _ hN
set_option maxHeartbeats 4000000 in
set_option maxRecDepth 100000 in
theorem bL_pages {G : mm_G} {A : Nat → Prop} {b L o8 o9 out : Nat} {xs : Nat → Int32} {i : Int32} {σ : mm_M} {ck sk : Nat} {N : mm_M → Prop} (hi : 0 ≤ i.toInt ∧ i.toInt + 6 ≤ L ∧ L ≤ 4000) (hc : ck + 0 ≤ 600002 ∧ sk + 0 ≤ 7302232) (h8 : σ.2.1 o8 = some (.inl 8)) (hst : lw_stepI (fun τ => fX8_pages o8  τ) (fun τ => fX9_pages o9  τ) o9 σ N) (kk : ∀ σ', N σ' → JL G A b L xs 1288 [(0, .ref b), (1, .ref o8), (2, .ref o9), (3, .ref out), (4, .int i)] [] σ' (ck + 0) (sk + 0)) : JL G A b L xs 669 [(0, .ref b), (1, .ref o8), (2, .ref o9), (3, .ref out), (4, .int i)] [] σ ck sk := by
  refine mm_aload_n (j := 1) dL_law_669 rfl rfl ?_
  obtain ⟨R8, hf8, h9, R9, hf9, hb9, hN⟩ := hst
  refine mm_callVi cd_ok (kX8_pages o8 hf8) h8 rfl (Or.inl tw_204) cdX8_pages tw_205 tw_206 nmX8_pages rfl rfl (by simp only [List.map_cons, List.map_nil, mm_rf_cat]; exact Nat.le_of_ble_eq_true rfl) dL_law_670 ⟨Nat.le_of_ble_eq_true rfl, Nat.le_of_ble_eq_true rfl⟩ ⟨by have := hc.1; show ck + 0 ≤ 600002; omega, by have := hc.2; show sk + 0 ≤ 7302232; omega⟩ ?_
  refine mm_aload_n (j := 2) dL_law_673 rfl rfl ?_
  refine mm_callVi cd_ok (kX9_pages o9 hf9) h9 rfl (Or.inl tw_1077) cdX9_pages tw_1078 tw_1079 nmX9_pages rfl rfl (by simp only [List.map_cons, List.map_nil, mm_rf_cat]; exact Nat.le_of_ble_eq_true rfl) dL_law_674 ⟨Nat.le_of_ble_eq_true rfl, Nat.le_of_ble_eq_true rfl⟩ ⟨by have := hc.1; show ck + 0 + 0 ≤ 600002; omega, by have := hc.2; show sk + 0 + 0 ≤ 7302232; omega⟩ ?_
  refine mm_icmp_eq (tgt := 1288) dL_law_677 (by decide) (fun _ => ?_) (fun h => absurd hb9.symm h)
  refine mm_sub [0, 1, 2, 3, 4] rfl ?_
  refine mm_widen (ck' := ck + 0) (sk' := sk + 0) (by show ck + 0 + 0 ≤ ck + 0; omega) (by show sk + 0 + 0 ≤ sk + 0; omega) ?_
  exact kk _ hN
set_option maxHeartbeats 4000000 in
set_option maxRecDepth 100000 in
theorem bL_find {G : mm_G} {A : Nat → Prop} {b L o8 o9 out : Nat} {xs : Nat → Int32} {i : Int32} {σ : mm_M} {ck sk : Nat} {N : mm_M → Prop} (hi : 0 ≤ i.toInt ∧ i.toInt + 6 ≤ L ∧ L ≤ 4000) (hc : ck + 0 ≤ 600002 ∧ sk + 0 ≤ 7302232) (h8 : σ.2.1 o8 = some (.inl 8)) (hst : lw_stepI (fun τ => fX8_find o8 (xs (i + 1).toNatClampNeg) (xs (i + 2).toNatClampNeg) (xs (i + 3).toNatClampNeg) τ) (fun τ => fX9_find o9 (xs (i + 1).toNatClampNeg) (xs (i + 2).toNatClampNeg) (xs (i + 3).toNatClampNeg) τ) o9 σ N) (kk : ∀ σ', N σ' → JL G A b L xs 1288 [(0, .ref b), (1, .ref o8), (2, .ref o9), (3, .ref out), (4, .int i)] [] σ' (ck + 0) (sk + 0)) : JL G A b L xs 682 [(0, .ref b), (1, .ref o8), (2, .ref o9), (3, .ref out), (4, .int i)] [] σ ck sk := by
  refine mm_aload_n (j := 1) dL_law_682 rfl rfl ?_
  refine mm_aload_n (j := 0) dL_law_683 rfl rfl ?_
  refine mm_iload (j := 4) dL_law_684 rfl ?_
  refine mm_iconst (v := 1) dL_law_686 (by decide) ?_
  refine mm_iadd dL_law_687 ?_
  refine lw_sld (lw_in hi (by decide)) dL_law_688 ?_
  refine mm_aload_n (j := 0) dL_law_689 rfl rfl ?_
  refine mm_iload (j := 4) dL_law_690 rfl ?_
  refine mm_iconst (v := 2) dL_law_692 (by decide) ?_
  refine mm_iadd dL_law_693 ?_
  refine lw_sld (lw_in hi (by decide)) dL_law_694 ?_
  refine mm_aload_n (j := 0) dL_law_695 rfl rfl ?_
  refine mm_iload (j := 4) dL_law_696 rfl ?_
  refine mm_iconst (v := 3) dL_law_698 (by decide) ?_
  refine mm_iadd dL_law_699 ?_
  refine lw_sld (lw_in hi (by decide)) dL_law_700 ?_
  obtain ⟨R8, hf8, h9, R9, hf9, hb9, hN⟩ := hst
  refine mm_callVi cd_ok (kX8_find o8 (xs (i + 1).toNatClampNeg) (xs (i + 2).toNatClampNeg) (xs (i + 3).toNatClampNeg) hf8) h8 rfl (Or.inl tw_208) cdX8_find tw_209 tw_210 nmX8_find rfl rfl (by simp only [List.map_cons, List.map_nil, mm_rf_cat]; exact Nat.le_of_ble_eq_true rfl) dL_law_701 ⟨Nat.le_of_ble_eq_true rfl, Nat.le_of_ble_eq_true rfl⟩ ⟨by have := hc.1; show ck + 0 ≤ 600002; omega, by have := hc.2; show sk + 0 ≤ 7302232; omega⟩ ?_
  refine mm_aload_n (j := 2) dL_law_704 rfl rfl ?_
  refine mm_aload_n (j := 0) dL_law_705 rfl rfl ?_
  refine mm_iload (j := 4) dL_law_706 rfl ?_
  refine mm_iconst (v := 1) dL_law_708 (by decide) ?_
  refine mm_iadd dL_law_709 ?_
  refine lw_sld (lw_in hi (by decide)) dL_law_710 ?_
  refine mm_aload_n (j := 0) dL_law_711 rfl rfl ?_
  refine mm_iload (j := 4) dL_law_712 rfl ?_
  refine mm_iconst (v := 2) dL_law_714 (by decide) ?_
  refine mm_iadd dL_law_715 ?_
  refine lw_sld (lw_in hi (by decide)) dL_law_716 ?_
  refine mm_aload_n (j := 0) dL_law_717 rfl rfl ?_
  refine mm_iload (j := 4) dL_law_718 rfl ?_
  refine mm_iconst (v := 3) dL_law_720 (by decide) ?_
  refine mm_iadd dL_law_721 ?_
  refine lw_sld (lw_in hi (by decide)) dL_law_722 ?_
  refine mm_callVi cd_ok (kX9_find o9 (xs (i + 1).toNatClampNeg) (xs (i + 2).toNatClampNeg) (xs (i + 3).toNatClampNeg) hf9) h9 rfl (Or.inl tw_1081) cdX9_find tw_1082 tw_1083 nmX9_find rfl rfl (by simp only [List.map_cons, List.map_nil, mm_rf_cat]; exact Nat.le_of_ble_eq_true rfl) dL_law_723 ⟨Nat.le_of_ble_eq_true rfl, Nat.le_of_ble_eq_true rfl⟩ ⟨by have := hc.1; show ck + 0 + 0 ≤ 600002; omega, by have := hc.2; show sk + 0 + 0 ≤ 7302232; omega⟩ ?_
  refine mm_icmp_eq (tgt := 1288) dL_law_726 (by decide) (fun _ => ?_) (fun h => absurd hb9.symm h)
  refine mm_sub [0, 1, 2, 3, 4] rfl ?_
  refine mm_widen (ck' := ck + 0) (sk' := sk + 0) (by show ck + 0 + 0 ≤ ck + 0; omega) (by show sk + 0 + 0 ≤ sk + 0; omega) ?_
  exact kk _ hN
set_option maxHeartbeats 4000000 in
set_option maxRecDepth 100000 in
theorem bL_page {G : mm_G} {A : Nat → Prop} {b L o8 o9 out : Nat} {xs : Nat → Int32} {i : Int32} {σ : mm_M} {ck sk : Nat} {N : mm_M → Prop} (hi : 0 ≤ i.toInt ∧ i.toInt + 6 ≤ L ∧ L ≤ 4000) (hc : ck + 1 ≤ 600002 ∧ sk + 6 ≤ 7302232) (h8 : σ.2.1 o8 = some (.inl 8)) (hst : lw_step (fun τ => fX8_page o8 (xs (i + 1).toNatClampNeg) (xs (i + 2).toNatClampNeg) τ) (fun τ => fX9_page o9 (xs (i + 1).toNatClampNeg) (xs (i + 2).toNatClampNeg) τ) o9 out σ N) (kk : ∀ σ', N σ' → JL G A b L xs 1288 [(0, .ref b), (1, .ref o8), (2, .ref o9), (3, .ref out), (4, .int i)] [] σ' (ck + 1) (sk + 6)) : JL G A b L xs 731 [(0, .ref b), (1, .ref o8), (2, .ref o9), (3, .ref out), (4, .int i)] [] σ ck sk := by
  refine mm_aload_n (j := 1) dL_law_731 rfl rfl ?_
  refine mm_aload_n (j := 0) dL_law_732 rfl rfl ?_
  refine mm_iload (j := 4) dL_law_733 rfl ?_
  refine mm_iconst (v := 1) dL_law_735 (by decide) ?_
  refine mm_iadd dL_law_736 ?_
  refine lw_sld (lw_in hi (by decide)) dL_law_737 ?_
  refine mm_aload_n (j := 0) dL_law_738 rfl rfl ?_
  refine mm_iload (j := 4) dL_law_739 rfl ?_
  refine mm_iconst (v := 2) dL_law_741 (by decide) ?_
  refine mm_iadd dL_law_742 ?_
  refine lw_sld (lw_in hi (by decide)) dL_law_743 ?_
  refine mm_aload_n (j := 3) dL_law_744 rfl rfl ?_
  obtain ⟨Rr, hf8, hso, hs0, hs1⟩ := hst
  refine lw_callH (kL_page o8 (xs (i + 1).toNatClampNeg) (xs (i + 2).toNatClampNeg) out hf8 h8 hso (by decide)) tw_630 tw_632 tw_0 tw_631 nmL_page rfl rfl (by simp only [List.map_cons, List.map_nil, mm_rf_cat]; exact Nat.le_of_ble_eq_true rfl) dL_law_745 ⟨Nat.le_of_ble_eq_true rfl, Nat.le_of_ble_eq_true rfl⟩ ⟨by have := hc.1; show ck + 1 ≤ 600002; omega, by have := hc.2; show sk + 6 ≤ 7302232; omega⟩ (fun r hr => ?_) (fun hr z => ?_)
  · obtain ⟨h9, R9, hf9, h9b, ht, hb9, hso9, hlo, hN⟩ := hs0 r hr
    refine mm_istore (L' := [(5, .int 0), (0, .ref b), (1, .ref o8), (2, .ref o9), (3, .ref out), (4, .int i)]) dL_law_748 (by decide) rfl ?_
    refine mm_aload_n (j := 3) dL_law_750 rfl rfl ?_
    refine mm_aload_n (j := 1) dL_law_751 rfl rfl ?_
    refine mm_iload (j := 5) dL_law_752 rfl ?_
    refine mm_iconst (v := 1) dL_law_754 (by decide) ?_
    refine mm_iadd dL_law_755 ?_
    refine lw_sld (lw_in hi (by decide)) dL_law_756 ?_
    refine mm_aload_n (j := 1) dL_law_757 rfl rfl ?_
    refine mm_iload (j := 5) dL_law_758 rfl ?_
    refine mm_iconst (v := 2) dL_law_760 (by decide) ?_
    refine mm_iadd dL_law_761 ?_
    refine lw_sld (lw_in hi (by decide)) dL_law_762 ?_
    refine mm_callVi cd_ok (kX9_page o9 (xs (i + 1).toNatClampNeg) (xs (i + 2).toNatClampNeg) hf9) h9 rfl (Or.inl tw_1085) cdX9_page tw_1086 tw_1087 nmX9_page rfl rfl (by simp only [List.map_cons, List.map_nil, mm_rf_cat]; exact Nat.le_of_ble_eq_true rfl) dL_law_763 ⟨Nat.le_of_ble_eq_true rfl, Nat.le_of_ble_eq_true rfl⟩ ⟨by have := hc.1; show ck + 1 + 0 ≤ 600002; omega, by have := hc.2; show sk + 6 + 0 ≤ 7302232; omega⟩ ?_
    refine mm_istore (L' := [(6, .int R9.1), (5, .int 0), (0, .ref b), (1, .ref o8), (2, .ref o9), (3, .ref out), (4, .int i)]) dL_law_766 (by decide) rfl ?_
    refine mm_aload_n (j := 4) dL_law_768 rfl rfl ?_
    refine mm_callVi cd_ok (kX9_thrown o9 (show fX9_thrown o9 R9.2 = some (mm_I R9.2 o9 0, R9.2) from by unfold fX9_thrown mm_sh; rw [if_pos h9b])) h9b rfl (Or.inl tw_933) cdX9_thrown tw_934 tw_935 nmX9_thrown rfl rfl (by simp only [List.map_cons, List.map_nil, mm_rf_cat]; exact Nat.le_of_ble_eq_true rfl) dL_law_769 ⟨Nat.le_of_ble_eq_true rfl, Nat.le_of_ble_eq_true rfl⟩ ⟨by have := hc.1; show ck + 1 + 0 + 0 ≤ 600002; omega, by have := hc.2; show sk + 6 + 0 + 0 ≤ 7302232; omega⟩ ?_
    refine mm_iload (j := 1) dL_law_772 rfl ?_
    refine mm_icmp_eq (tgt := 779) dL_law_774 (by decide) (fun _ => ?_) (fun h => absurd ht h)
    refine mm_iload (j := 1) dL_law_779 rfl ?_
    refine mm_if_ne (tgt := 796) dL_law_781 (by decide) (fun h => absurd rfl h) (fun _ => ?_)
    refine mm_aload_n (j := 5) dL_law_784 rfl rfl ?_
    refine mm_iconst (v := 0) dL_law_785 (by decide) ?_
    refine mm_lald hso9 rfl (mm_in0 (by decide)) dL_law_786 ?_
    refine mm_iload (j := 0) dL_law_787 rfl ?_
    refine mm_i2l dL_law_789 ?_
    refine lw_lcmp dL_law_790 ?_
    refine mm_if_eq (tgt := 796) dL_law_791 (by decide) (fun _ => ?_) (fun h => absurd (by rw [hlo, hb9]; exact lw_cmp_eq _) h)
    refine mm_goto (tgt := 1288) dL_law_796 (by decide) ?_
    refine mm_sub [2, 3, 4, 5, 6] rfl ?_
    refine mm_widen (ck' := ck + 1) (sk' := sk + 6) (by show ck + 1 + 0 + 0 ≤ ck + 1; omega) (by show sk + 6 + 0 + 0 ≤ sk + 6; omega) ?_
    exact kk _ hN
  · refine lw_lt (fun hlt => ?_)
    obtain ⟨h9, R9, hf9, h9b, ht, hN⟩ := hs1 hr z hlt
    refine mm_istore (L' := [(5, .int 1), (0, .ref b), (1, .ref o8), (2, .ref o9), (3, .ref out), (4, .int i)]) dL_law_748 (by decide) rfl ?_
    refine mm_aload_n (j := 3) dL_law_750 rfl rfl ?_
    refine mm_aload_n (j := 1) dL_law_751 rfl rfl ?_
    refine mm_iload (j := 5) dL_law_752 rfl ?_
    refine mm_iconst (v := 1) dL_law_754 (by decide) ?_
    refine mm_iadd dL_law_755 ?_
    refine lw_sld (lw_in hi (by decide)) dL_law_756 ?_
    refine mm_aload_n (j := 1) dL_law_757 rfl rfl ?_
    refine mm_iload (j := 5) dL_law_758 rfl ?_
    refine mm_iconst (v := 2) dL_law_760 (by decide) ?_
    refine mm_iadd dL_law_761 ?_
    refine lw_sld (lw_in hi (by decide)) dL_law_762 ?_
    refine mm_callVi cd_ok (kX9_page o9 (xs (i + 1).toNatClampNeg) (xs (i + 2).toNatClampNeg) hf9) h9 rfl (Or.inl tw_1085) cdX9_page tw_1086 tw_1087 nmX9_page rfl rfl (by simp only [List.map_cons, List.map_nil, mm_rf_cat]; exact Nat.le_of_ble_eq_true rfl) dL_law_763 ⟨Nat.le_of_ble_eq_true rfl, Nat.le_of_ble_eq_true rfl⟩ ⟨by have := hc.1; show ck + 1 + 0 ≤ 600002; omega, by have := hc.2; show sk + 6 + 0 ≤ 7302232; omega⟩ ?_
    refine mm_istore (L' := [(6, .int R9.1), (5, .int 1), (0, .ref b), (1, .ref o8), (2, .ref o9), (3, .ref out), (4, .int i)]) dL_law_766 (by decide) rfl ?_
    refine mm_aload_n (j := 4) dL_law_768 rfl rfl ?_
    refine mm_callVi cd_ok (kX9_thrown o9 (show fX9_thrown o9 R9.2 = some (mm_I R9.2 o9 0, R9.2) from by unfold fX9_thrown mm_sh; rw [if_pos h9b])) h9b rfl (Or.inl tw_933) cdX9_thrown tw_934 tw_935 nmX9_thrown rfl rfl (by simp only [List.map_cons, List.map_nil, mm_rf_cat]; exact Nat.le_of_ble_eq_true rfl) dL_law_769 ⟨Nat.le_of_ble_eq_true rfl, Nat.le_of_ble_eq_true rfl⟩ ⟨by have := hc.1; show ck + 1 + 0 + 0 ≤ 600002; omega, by have := hc.2; show sk + 6 + 0 + 0 ≤ 7302232; omega⟩ ?_
    refine mm_iload (j := 1) dL_law_772 rfl ?_
    refine mm_icmp_eq (tgt := 779) dL_law_774 (by decide) (fun _ => ?_) (fun h => absurd ht h)
    refine mm_iload (j := 1) dL_law_779 rfl ?_
    refine mm_if_ne (tgt := 796) dL_law_781 (by decide) (fun _ => ?_) (fun h => absurd h (by decide))
    refine mm_goto (tgt := 1288) dL_law_796 (by decide) ?_
    refine mm_sub [2, 3, 4, 5, 6] rfl ?_
    refine mm_widen (ck' := ck + 1) (sk' := sk + 6) (by show ck + 1 + 0 + 0 ≤ ck + 1; omega) (by show sk + 6 + 0 + 0 ≤ sk + 6; omega) ?_
    exact kk _ hN
set_option maxHeartbeats 4000000 in
set_option maxRecDepth 100000 in
theorem bL_sign {G : mm_G} {A : Nat → Prop} {b L o8 o9 out : Nat} {xs : Nat → Int32} {i : Int32} {σ : mm_M} {ck sk : Nat} {N : mm_M → Prop} (hi : 0 ≤ i.toInt ∧ i.toInt + 6 ≤ L ∧ L ≤ 4000) (hc : ck + 1 ≤ 600002 ∧ sk + 6 ≤ 7302232) (h8 : σ.2.1 o8 = some (.inl 8)) (hst : lw_step (fun τ => fX8_sign o8 (xs (i + 1).toNatClampNeg) (xs (i + 2).toNatClampNeg) (xs (i + 3).toNatClampNeg) τ) (fun τ => fX9_sign o9 (xs (i + 1).toNatClampNeg) (xs (i + 2).toNatClampNeg) (xs (i + 3).toNatClampNeg) τ) o9 out σ N) (kk : ∀ σ', N σ' → JL G A b L xs 1288 [(0, .ref b), (1, .ref o8), (2, .ref o9), (3, .ref out), (4, .int i)] [] σ' (ck + 1) (sk + 6)) : JL G A b L xs 799 [(0, .ref b), (1, .ref o8), (2, .ref o9), (3, .ref out), (4, .int i)] [] σ ck sk := by
  refine mm_aload_n (j := 1) dL_law_799 rfl rfl ?_
  refine mm_aload_n (j := 0) dL_law_800 rfl rfl ?_
  refine mm_iload (j := 4) dL_law_801 rfl ?_
  refine mm_iconst (v := 1) dL_law_803 (by decide) ?_
  refine mm_iadd dL_law_804 ?_
  refine lw_sld (lw_in hi (by decide)) dL_law_805 ?_
  refine mm_aload_n (j := 0) dL_law_806 rfl rfl ?_
  refine mm_iload (j := 4) dL_law_807 rfl ?_
  refine mm_iconst (v := 2) dL_law_809 (by decide) ?_
  refine mm_iadd dL_law_810 ?_
  refine lw_sld (lw_in hi (by decide)) dL_law_811 ?_
  refine mm_aload_n (j := 0) dL_law_812 rfl rfl ?_
  refine mm_iload (j := 4) dL_law_813 rfl ?_
  refine mm_iconst (v := 3) dL_law_815 (by decide) ?_
  refine mm_iadd dL_law_816 ?_
  refine lw_sld (lw_in hi (by decide)) dL_law_817 ?_
  refine mm_aload_n (j := 3) dL_law_818 rfl rfl ?_
  obtain ⟨Rr, hf8, hso, hs0, hs1⟩ := hst
  refine lw_callH (kL_sign o8 (xs (i + 1).toNatClampNeg) (xs (i + 2).toNatClampNeg) (xs (i + 3).toNatClampNeg) out hf8 h8 hso (by decide)) tw_638 tw_640 tw_0 tw_639 nmL_sign rfl rfl (by simp only [List.map_cons, List.map_nil, mm_rf_cat]; exact Nat.le_of_ble_eq_true rfl) dL_law_819 ⟨Nat.le_of_ble_eq_true rfl, Nat.le_of_ble_eq_true rfl⟩ ⟨by have := hc.1; show ck + 1 ≤ 600002; omega, by have := hc.2; show sk + 6 ≤ 7302232; omega⟩ (fun r hr => ?_) (fun hr z => ?_)
  · obtain ⟨h9, R9, hf9, h9b, ht, hb9, hso9, hlo, hN⟩ := hs0 r hr
    refine mm_istore (L' := [(5, .int 0), (0, .ref b), (1, .ref o8), (2, .ref o9), (3, .ref out), (4, .int i)]) dL_law_822 (by decide) rfl ?_
    refine mm_aload_n (j := 3) dL_law_824 rfl rfl ?_
    refine mm_aload_n (j := 1) dL_law_825 rfl rfl ?_
    refine mm_iload (j := 5) dL_law_826 rfl ?_
    refine mm_iconst (v := 1) dL_law_828 (by decide) ?_
    refine mm_iadd dL_law_829 ?_
    refine lw_sld (lw_in hi (by decide)) dL_law_830 ?_
    refine mm_aload_n (j := 1) dL_law_831 rfl rfl ?_
    refine mm_iload (j := 5) dL_law_832 rfl ?_
    refine mm_iconst (v := 2) dL_law_834 (by decide) ?_
    refine mm_iadd dL_law_835 ?_
    refine lw_sld (lw_in hi (by decide)) dL_law_836 ?_
    refine mm_aload_n (j := 1) dL_law_837 rfl rfl ?_
    refine mm_iload (j := 5) dL_law_838 rfl ?_
    refine mm_iconst (v := 3) dL_law_840 (by decide) ?_
    refine mm_iadd dL_law_841 ?_
    refine lw_sld (lw_in hi (by decide)) dL_law_842 ?_
    refine mm_callVi cd_ok (kX9_sign o9 (xs (i + 1).toNatClampNeg) (xs (i + 2).toNatClampNeg) (xs (i + 3).toNatClampNeg) hf9) h9 rfl (Or.inl tw_1089) cdX9_sign tw_1090 tw_1091 nmX9_sign rfl rfl (by simp only [List.map_cons, List.map_nil, mm_rf_cat]; exact Nat.le_of_ble_eq_true rfl) dL_law_843 ⟨Nat.le_of_ble_eq_true rfl, Nat.le_of_ble_eq_true rfl⟩ ⟨by have := hc.1; show ck + 1 + 0 ≤ 600002; omega, by have := hc.2; show sk + 6 + 0 ≤ 7302232; omega⟩ ?_
    refine mm_istore (L' := [(6, .int R9.1), (5, .int 0), (0, .ref b), (1, .ref o8), (2, .ref o9), (3, .ref out), (4, .int i)]) dL_law_846 (by decide) rfl ?_
    refine mm_aload_n (j := 4) dL_law_848 rfl rfl ?_
    refine mm_callVi cd_ok (kX9_thrown o9 (show fX9_thrown o9 R9.2 = some (mm_I R9.2 o9 0, R9.2) from by unfold fX9_thrown mm_sh; rw [if_pos h9b])) h9b rfl (Or.inl tw_933) cdX9_thrown tw_934 tw_935 nmX9_thrown rfl rfl (by simp only [List.map_cons, List.map_nil, mm_rf_cat]; exact Nat.le_of_ble_eq_true rfl) dL_law_849 ⟨Nat.le_of_ble_eq_true rfl, Nat.le_of_ble_eq_true rfl⟩ ⟨by have := hc.1; show ck + 1 + 0 + 0 ≤ 600002; omega, by have := hc.2; show sk + 6 + 0 + 0 ≤ 7302232; omega⟩ ?_
    refine mm_iload (j := 1) dL_law_852 rfl ?_
    refine mm_icmp_eq (tgt := 859) dL_law_854 (by decide) (fun _ => ?_) (fun h => absurd ht h)
    refine mm_iload (j := 1) dL_law_859 rfl ?_
    refine mm_if_ne (tgt := 876) dL_law_861 (by decide) (fun h => absurd rfl h) (fun _ => ?_)
    refine mm_aload_n (j := 5) dL_law_864 rfl rfl ?_
    refine mm_iconst (v := 0) dL_law_865 (by decide) ?_
    refine mm_lald hso9 rfl (mm_in0 (by decide)) dL_law_866 ?_
    refine mm_iload (j := 0) dL_law_867 rfl ?_
    refine mm_i2l dL_law_869 ?_
    refine lw_lcmp dL_law_870 ?_
    refine mm_if_eq (tgt := 876) dL_law_871 (by decide) (fun _ => ?_) (fun h => absurd (by rw [hlo, hb9]; exact lw_cmp_eq _) h)
    refine mm_goto (tgt := 1288) dL_law_876 (by decide) ?_
    refine mm_sub [2, 3, 4, 5, 6] rfl ?_
    refine mm_widen (ck' := ck + 1) (sk' := sk + 6) (by show ck + 1 + 0 + 0 ≤ ck + 1; omega) (by show sk + 6 + 0 + 0 ≤ sk + 6; omega) ?_
    exact kk _ hN
  · refine lw_lt (fun hlt => ?_)
    obtain ⟨h9, R9, hf9, h9b, ht, hN⟩ := hs1 hr z hlt
    refine mm_istore (L' := [(5, .int 1), (0, .ref b), (1, .ref o8), (2, .ref o9), (3, .ref out), (4, .int i)]) dL_law_822 (by decide) rfl ?_
    refine mm_aload_n (j := 3) dL_law_824 rfl rfl ?_
    refine mm_aload_n (j := 1) dL_law_825 rfl rfl ?_
    refine mm_iload (j := 5) dL_law_826 rfl ?_
    refine mm_iconst (v := 1) dL_law_828 (by decide) ?_
    refine mm_iadd dL_law_829 ?_
    refine lw_sld (lw_in hi (by decide)) dL_law_830 ?_
    refine mm_aload_n (j := 1) dL_law_831 rfl rfl ?_
    refine mm_iload (j := 5) dL_law_832 rfl ?_
    refine mm_iconst (v := 2) dL_law_834 (by decide) ?_
    refine mm_iadd dL_law_835 ?_
    refine lw_sld (lw_in hi (by decide)) dL_law_836 ?_
    refine mm_aload_n (j := 1) dL_law_837 rfl rfl ?_
    refine mm_iload (j := 5) dL_law_838 rfl ?_
    refine mm_iconst (v := 3) dL_law_840 (by decide) ?_
    refine mm_iadd dL_law_841 ?_
    refine lw_sld (lw_in hi (by decide)) dL_law_842 ?_
    refine mm_callVi cd_ok (kX9_sign o9 (xs (i + 1).toNatClampNeg) (xs (i + 2).toNatClampNeg) (xs (i + 3).toNatClampNeg) hf9) h9 rfl (Or.inl tw_1089) cdX9_sign tw_1090 tw_1091 nmX9_sign rfl rfl (by simp only [List.map_cons, List.map_nil, mm_rf_cat]; exact Nat.le_of_ble_eq_true rfl) dL_law_843 ⟨Nat.le_of_ble_eq_true rfl, Nat.le_of_ble_eq_true rfl⟩ ⟨by have := hc.1; show ck + 1 + 0 ≤ 600002; omega, by have := hc.2; show sk + 6 + 0 ≤ 7302232; omega⟩ ?_
    refine mm_istore (L' := [(6, .int R9.1), (5, .int 1), (0, .ref b), (1, .ref o8), (2, .ref o9), (3, .ref out), (4, .int i)]) dL_law_846 (by decide) rfl ?_
    refine mm_aload_n (j := 4) dL_law_848 rfl rfl ?_
    refine mm_callVi cd_ok (kX9_thrown o9 (show fX9_thrown o9 R9.2 = some (mm_I R9.2 o9 0, R9.2) from by unfold fX9_thrown mm_sh; rw [if_pos h9b])) h9b rfl (Or.inl tw_933) cdX9_thrown tw_934 tw_935 nmX9_thrown rfl rfl (by simp only [List.map_cons, List.map_nil, mm_rf_cat]; exact Nat.le_of_ble_eq_true rfl) dL_law_849 ⟨Nat.le_of_ble_eq_true rfl, Nat.le_of_ble_eq_true rfl⟩ ⟨by have := hc.1; show ck + 1 + 0 + 0 ≤ 600002; omega, by have := hc.2; show sk + 6 + 0 + 0 ≤ 7302232; omega⟩ ?_
    refine mm_iload (j := 1) dL_law_852 rfl ?_
    refine mm_icmp_eq (tgt := 859) dL_law_854 (by decide) (fun _ => ?_) (fun h => absurd ht h)
    refine mm_iload (j := 1) dL_law_859 rfl ?_
    refine mm_if_ne (tgt := 876) dL_law_861 (by decide) (fun _ => ?_) (fun h => absurd h (by decide))
    refine mm_goto (tgt := 1288) dL_law_876 (by decide) ?_
    refine mm_sub [2, 3, 4, 5, 6] rfl ?_
    refine mm_widen (ck' := ck + 1) (sk' := sk + 6) (by show ck + 1 + 0 + 0 ≤ ck + 1; omega) (by show sk + 6 + 0 + 0 ≤ sk + 6; omega) ?_
    exact kk _ hN
set_option maxHeartbeats 4000000 in
set_option maxRecDepth 100000 in
theorem bL_link {G : mm_G} {A : Nat → Prop} {b L o8 o9 out : Nat} {xs : Nat → Int32} {i : Int32} {σ : mm_M} {ck sk : Nat} {N : mm_M → Prop} (hi : 0 ≤ i.toInt ∧ i.toInt + 6 ≤ L ∧ L ≤ 4000) (hc : ck + 1 ≤ 600002 ∧ sk + 6 ≤ 7302232) (h8 : σ.2.1 o8 = some (.inl 8)) (hst : lw_step (fun τ => fX8_link o8 (xs (i + 1).toNatClampNeg) (xs (i + 2).toNatClampNeg) (xs (i + 3).toNatClampNeg) τ) (fun τ => fX9_link o9 (xs (i + 1).toNatClampNeg) (xs (i + 2).toNatClampNeg) (xs (i + 3).toNatClampNeg) τ) o9 out σ N) (kk : ∀ σ', N σ' → JL G A b L xs 1288 [(0, .ref b), (1, .ref o8), (2, .ref o9), (3, .ref out), (4, .int i)] [] σ' (ck + 1) (sk + 6)) : JL G A b L xs 879 [(0, .ref b), (1, .ref o8), (2, .ref o9), (3, .ref out), (4, .int i)] [] σ ck sk := by
  refine mm_aload_n (j := 1) dL_law_879 rfl rfl ?_
  refine mm_aload_n (j := 0) dL_law_880 rfl rfl ?_
  refine mm_iload (j := 4) dL_law_881 rfl ?_
  refine mm_iconst (v := 1) dL_law_883 (by decide) ?_
  refine mm_iadd dL_law_884 ?_
  refine lw_sld (lw_in hi (by decide)) dL_law_885 ?_
  refine mm_aload_n (j := 0) dL_law_886 rfl rfl ?_
  refine mm_iload (j := 4) dL_law_887 rfl ?_
  refine mm_iconst (v := 2) dL_law_889 (by decide) ?_
  refine mm_iadd dL_law_890 ?_
  refine lw_sld (lw_in hi (by decide)) dL_law_891 ?_
  refine mm_aload_n (j := 0) dL_law_892 rfl rfl ?_
  refine mm_iload (j := 4) dL_law_893 rfl ?_
  refine mm_iconst (v := 3) dL_law_895 (by decide) ?_
  refine mm_iadd dL_law_896 ?_
  refine lw_sld (lw_in hi (by decide)) dL_law_897 ?_
  refine mm_aload_n (j := 3) dL_law_898 rfl rfl ?_
  obtain ⟨Rr, hf8, hso, hs0, hs1⟩ := hst
  refine lw_callH (kL_link o8 (xs (i + 1).toNatClampNeg) (xs (i + 2).toNatClampNeg) (xs (i + 3).toNatClampNeg) out hf8 h8 hso (by decide)) tw_650 tw_652 tw_0 tw_651 nmL_link rfl rfl (by simp only [List.map_cons, List.map_nil, mm_rf_cat]; exact Nat.le_of_ble_eq_true rfl) dL_law_899 ⟨Nat.le_of_ble_eq_true rfl, Nat.le_of_ble_eq_true rfl⟩ ⟨by have := hc.1; show ck + 1 ≤ 600002; omega, by have := hc.2; show sk + 6 ≤ 7302232; omega⟩ (fun r hr => ?_) (fun hr z => ?_)
  · obtain ⟨h9, R9, hf9, h9b, ht, hb9, hso9, hlo, hN⟩ := hs0 r hr
    refine mm_istore (L' := [(5, .int 0), (0, .ref b), (1, .ref o8), (2, .ref o9), (3, .ref out), (4, .int i)]) dL_law_902 (by decide) rfl ?_
    refine mm_aload_n (j := 3) dL_law_904 rfl rfl ?_
    refine mm_aload_n (j := 1) dL_law_905 rfl rfl ?_
    refine mm_iload (j := 5) dL_law_906 rfl ?_
    refine mm_iconst (v := 1) dL_law_908 (by decide) ?_
    refine mm_iadd dL_law_909 ?_
    refine lw_sld (lw_in hi (by decide)) dL_law_910 ?_
    refine mm_aload_n (j := 1) dL_law_911 rfl rfl ?_
    refine mm_iload (j := 5) dL_law_912 rfl ?_
    refine mm_iconst (v := 2) dL_law_914 (by decide) ?_
    refine mm_iadd dL_law_915 ?_
    refine lw_sld (lw_in hi (by decide)) dL_law_916 ?_
    refine mm_aload_n (j := 1) dL_law_917 rfl rfl ?_
    refine mm_iload (j := 5) dL_law_918 rfl ?_
    refine mm_iconst (v := 3) dL_law_920 (by decide) ?_
    refine mm_iadd dL_law_921 ?_
    refine lw_sld (lw_in hi (by decide)) dL_law_922 ?_
    refine mm_callVi cd_ok (kX9_link o9 (xs (i + 1).toNatClampNeg) (xs (i + 2).toNatClampNeg) (xs (i + 3).toNatClampNeg) hf9) h9 rfl (Or.inl tw_1093) cdX9_link tw_1094 tw_1095 nmX9_link rfl rfl (by simp only [List.map_cons, List.map_nil, mm_rf_cat]; exact Nat.le_of_ble_eq_true rfl) dL_law_923 ⟨Nat.le_of_ble_eq_true rfl, Nat.le_of_ble_eq_true rfl⟩ ⟨by have := hc.1; show ck + 1 + 0 ≤ 600002; omega, by have := hc.2; show sk + 6 + 0 ≤ 7302232; omega⟩ ?_
    refine mm_istore (L' := [(6, .int R9.1), (5, .int 0), (0, .ref b), (1, .ref o8), (2, .ref o9), (3, .ref out), (4, .int i)]) dL_law_926 (by decide) rfl ?_
    refine mm_aload_n (j := 4) dL_law_928 rfl rfl ?_
    refine mm_callVi cd_ok (kX9_thrown o9 (show fX9_thrown o9 R9.2 = some (mm_I R9.2 o9 0, R9.2) from by unfold fX9_thrown mm_sh; rw [if_pos h9b])) h9b rfl (Or.inl tw_933) cdX9_thrown tw_934 tw_935 nmX9_thrown rfl rfl (by simp only [List.map_cons, List.map_nil, mm_rf_cat]; exact Nat.le_of_ble_eq_true rfl) dL_law_929 ⟨Nat.le_of_ble_eq_true rfl, Nat.le_of_ble_eq_true rfl⟩ ⟨by have := hc.1; show ck + 1 + 0 + 0 ≤ 600002; omega, by have := hc.2; show sk + 6 + 0 + 0 ≤ 7302232; omega⟩ ?_
    refine mm_iload (j := 1) dL_law_932 rfl ?_
    refine mm_icmp_eq (tgt := 939) dL_law_934 (by decide) (fun _ => ?_) (fun h => absurd ht h)
    refine mm_iload (j := 1) dL_law_939 rfl ?_
    refine mm_if_ne (tgt := 956) dL_law_941 (by decide) (fun h => absurd rfl h) (fun _ => ?_)
    refine mm_aload_n (j := 5) dL_law_944 rfl rfl ?_
    refine mm_iconst (v := 0) dL_law_945 (by decide) ?_
    refine mm_lald hso9 rfl (mm_in0 (by decide)) dL_law_946 ?_
    refine mm_iload (j := 0) dL_law_947 rfl ?_
    refine mm_i2l dL_law_949 ?_
    refine lw_lcmp dL_law_950 ?_
    refine mm_if_eq (tgt := 956) dL_law_951 (by decide) (fun _ => ?_) (fun h => absurd (by rw [hlo, hb9]; exact lw_cmp_eq _) h)
    refine mm_goto (tgt := 1288) dL_law_956 (by decide) ?_
    refine mm_sub [2, 3, 4, 5, 6] rfl ?_
    refine mm_widen (ck' := ck + 1) (sk' := sk + 6) (by show ck + 1 + 0 + 0 ≤ ck + 1; omega) (by show sk + 6 + 0 + 0 ≤ sk + 6; omega) ?_
    exact kk _ hN
  · refine lw_lt (fun hlt => ?_)
    obtain ⟨h9, R9, hf9, h9b, ht, hN⟩ := hs1 hr z hlt
    refine mm_istore (L' := [(5, .int 1), (0, .ref b), (1, .ref o8), (2, .ref o9), (3, .ref out), (4, .int i)]) dL_law_902 (by decide) rfl ?_
    refine mm_aload_n (j := 3) dL_law_904 rfl rfl ?_
    refine mm_aload_n (j := 1) dL_law_905 rfl rfl ?_
    refine mm_iload (j := 5) dL_law_906 rfl ?_
    refine mm_iconst (v := 1) dL_law_908 (by decide) ?_
    refine mm_iadd dL_law_909 ?_
    refine lw_sld (lw_in hi (by decide)) dL_law_910 ?_
    refine mm_aload_n (j := 1) dL_law_911 rfl rfl ?_
    refine mm_iload (j := 5) dL_law_912 rfl ?_
    refine mm_iconst (v := 2) dL_law_914 (by decide) ?_
    refine mm_iadd dL_law_915 ?_
    refine lw_sld (lw_in hi (by decide)) dL_law_916 ?_
    refine mm_aload_n (j := 1) dL_law_917 rfl rfl ?_
    refine mm_iload (j := 5) dL_law_918 rfl ?_
    refine mm_iconst (v := 3) dL_law_920 (by decide) ?_
    refine mm_iadd dL_law_921 ?_
    refine lw_sld (lw_in hi (by decide)) dL_law_922 ?_
    refine mm_callVi cd_ok (kX9_link o9 (xs (i + 1).toNatClampNeg) (xs (i + 2).toNatClampNeg) (xs (i + 3).toNatClampNeg) hf9) h9 rfl (Or.inl tw_1093) cdX9_link tw_1094 tw_1095 nmX9_link rfl rfl (by simp only [List.map_cons, List.map_nil, mm_rf_cat]; exact Nat.le_of_ble_eq_true rfl) dL_law_923 ⟨Nat.le_of_ble_eq_true rfl, Nat.le_of_ble_eq_true rfl⟩ ⟨by have := hc.1; show ck + 1 + 0 ≤ 600002; omega, by have := hc.2; show sk + 6 + 0 ≤ 7302232; omega⟩ ?_
    refine mm_istore (L' := [(6, .int R9.1), (5, .int 1), (0, .ref b), (1, .ref o8), (2, .ref o9), (3, .ref out), (4, .int i)]) dL_law_926 (by decide) rfl ?_
    refine mm_aload_n (j := 4) dL_law_928 rfl rfl ?_
    refine mm_callVi cd_ok (kX9_thrown o9 (show fX9_thrown o9 R9.2 = some (mm_I R9.2 o9 0, R9.2) from by unfold fX9_thrown mm_sh; rw [if_pos h9b])) h9b rfl (Or.inl tw_933) cdX9_thrown tw_934 tw_935 nmX9_thrown rfl rfl (by simp only [List.map_cons, List.map_nil, mm_rf_cat]; exact Nat.le_of_ble_eq_true rfl) dL_law_929 ⟨Nat.le_of_ble_eq_true rfl, Nat.le_of_ble_eq_true rfl⟩ ⟨by have := hc.1; show ck + 1 + 0 + 0 ≤ 600002; omega, by have := hc.2; show sk + 6 + 0 + 0 ≤ 7302232; omega⟩ ?_
    refine mm_iload (j := 1) dL_law_932 rfl ?_
    refine mm_icmp_eq (tgt := 939) dL_law_934 (by decide) (fun _ => ?_) (fun h => absurd ht h)
    refine mm_iload (j := 1) dL_law_939 rfl ?_
    refine mm_if_ne (tgt := 956) dL_law_941 (by decide) (fun _ => ?_) (fun h => absurd h (by decide))
    refine mm_goto (tgt := 1288) dL_law_956 (by decide) ?_
    refine mm_sub [2, 3, 4, 5, 6] rfl ?_
    refine mm_widen (ck' := ck + 1) (sk' := sk + 6) (by show ck + 1 + 0 + 0 ≤ ck + 1; omega) (by show sk + 6 + 0 + 0 ≤ sk + 6; omega) ?_
    exact kk _ hN
set_option maxHeartbeats 4000000 in
set_option maxRecDepth 100000 in
theorem bL_open {G : mm_G} {A : Nat → Prop} {b L o8 o9 out : Nat} {xs : Nat → Int32} {i : Int32} {σ : mm_M} {ck sk : Nat} {N : mm_M → Prop} (hi : 0 ≤ i.toInt ∧ i.toInt + 6 ≤ L ∧ L ≤ 4000) (hc : ck + 1 ≤ 600002 ∧ sk + 6 ≤ 7302232) (h8 : σ.2.1 o8 = some (.inl 8)) (hst : lw_step (fun τ => fX8_open o8 (xs (i + 1).toNatClampNeg) τ) (fun τ => fX9_open o9 (xs (i + 1).toNatClampNeg) τ) o9 out σ N) (kk : ∀ σ', N σ' → JL G A b L xs 1288 [(0, .ref b), (1, .ref o8), (2, .ref o9), (3, .ref out), (4, .int i)] [] σ' (ck + 1) (sk + 6)) : JL G A b L xs 959 [(0, .ref b), (1, .ref o8), (2, .ref o9), (3, .ref out), (4, .int i)] [] σ ck sk := by
  refine mm_aload_n (j := 1) dL_law_959 rfl rfl ?_
  refine mm_aload_n (j := 0) dL_law_960 rfl rfl ?_
  refine mm_iload (j := 4) dL_law_961 rfl ?_
  refine mm_iconst (v := 1) dL_law_963 (by decide) ?_
  refine mm_iadd dL_law_964 ?_
  refine lw_sld (lw_in hi (by decide)) dL_law_965 ?_
  refine mm_aload_n (j := 3) dL_law_966 rfl rfl ?_
  obtain ⟨Rr, hf8, hso, hs0, hs1⟩ := hst
  refine lw_callH (kL_open o8 (xs (i + 1).toNatClampNeg) out hf8 h8 hso (by decide)) tw_658 tw_660 tw_0 tw_659 nmL_open rfl rfl (by simp only [List.map_cons, List.map_nil, mm_rf_cat]; exact Nat.le_of_ble_eq_true rfl) dL_law_967 ⟨Nat.le_of_ble_eq_true rfl, Nat.le_of_ble_eq_true rfl⟩ ⟨by have := hc.1; show ck + 1 ≤ 600002; omega, by have := hc.2; show sk + 6 ≤ 7302232; omega⟩ (fun r hr => ?_) (fun hr z => ?_)
  · obtain ⟨h9, R9, hf9, h9b, ht, hb9, hso9, hlo, hN⟩ := hs0 r hr
    refine mm_istore (L' := [(5, .int 0), (0, .ref b), (1, .ref o8), (2, .ref o9), (3, .ref out), (4, .int i)]) dL_law_970 (by decide) rfl ?_
    refine mm_aload_n (j := 3) dL_law_972 rfl rfl ?_
    refine mm_aload_n (j := 1) dL_law_973 rfl rfl ?_
    refine mm_iload (j := 5) dL_law_974 rfl ?_
    refine mm_iconst (v := 1) dL_law_976 (by decide) ?_
    refine mm_iadd dL_law_977 ?_
    refine lw_sld (lw_in hi (by decide)) dL_law_978 ?_
    refine mm_callVi cd_ok (kX9_open o9 (xs (i + 1).toNatClampNeg) hf9) h9 rfl (Or.inl tw_1097) cdX9_open tw_1098 tw_1099 nmX9_open rfl rfl (by simp only [List.map_cons, List.map_nil, mm_rf_cat]; exact Nat.le_of_ble_eq_true rfl) dL_law_979 ⟨Nat.le_of_ble_eq_true rfl, Nat.le_of_ble_eq_true rfl⟩ ⟨by have := hc.1; show ck + 1 + 0 ≤ 600002; omega, by have := hc.2; show sk + 6 + 0 ≤ 7302232; omega⟩ ?_
    refine mm_istore (L' := [(6, .int R9.1), (5, .int 0), (0, .ref b), (1, .ref o8), (2, .ref o9), (3, .ref out), (4, .int i)]) dL_law_982 (by decide) rfl ?_
    refine mm_aload_n (j := 4) dL_law_984 rfl rfl ?_
    refine mm_callVi cd_ok (kX9_thrown o9 (show fX9_thrown o9 R9.2 = some (mm_I R9.2 o9 0, R9.2) from by unfold fX9_thrown mm_sh; rw [if_pos h9b])) h9b rfl (Or.inl tw_933) cdX9_thrown tw_934 tw_935 nmX9_thrown rfl rfl (by simp only [List.map_cons, List.map_nil, mm_rf_cat]; exact Nat.le_of_ble_eq_true rfl) dL_law_985 ⟨Nat.le_of_ble_eq_true rfl, Nat.le_of_ble_eq_true rfl⟩ ⟨by have := hc.1; show ck + 1 + 0 + 0 ≤ 600002; omega, by have := hc.2; show sk + 6 + 0 + 0 ≤ 7302232; omega⟩ ?_
    refine mm_iload (j := 1) dL_law_988 rfl ?_
    refine mm_icmp_eq (tgt := 995) dL_law_990 (by decide) (fun _ => ?_) (fun h => absurd ht h)
    refine mm_iload (j := 1) dL_law_995 rfl ?_
    refine mm_if_ne (tgt := 1012) dL_law_997 (by decide) (fun h => absurd rfl h) (fun _ => ?_)
    refine mm_aload_n (j := 5) dL_law_1000 rfl rfl ?_
    refine mm_iconst (v := 0) dL_law_1001 (by decide) ?_
    refine mm_lald hso9 rfl (mm_in0 (by decide)) dL_law_1002 ?_
    refine mm_iload (j := 0) dL_law_1003 rfl ?_
    refine mm_i2l dL_law_1005 ?_
    refine lw_lcmp dL_law_1006 ?_
    refine mm_if_eq (tgt := 1012) dL_law_1007 (by decide) (fun _ => ?_) (fun h => absurd (by rw [hlo, hb9]; exact lw_cmp_eq _) h)
    refine mm_goto (tgt := 1288) dL_law_1012 (by decide) ?_
    refine mm_sub [2, 3, 4, 5, 6] rfl ?_
    refine mm_widen (ck' := ck + 1) (sk' := sk + 6) (by show ck + 1 + 0 + 0 ≤ ck + 1; omega) (by show sk + 6 + 0 + 0 ≤ sk + 6; omega) ?_
    exact kk _ hN
  · refine lw_lt (fun hlt => ?_)
    obtain ⟨h9, R9, hf9, h9b, ht, hN⟩ := hs1 hr z hlt
    refine mm_istore (L' := [(5, .int 1), (0, .ref b), (1, .ref o8), (2, .ref o9), (3, .ref out), (4, .int i)]) dL_law_970 (by decide) rfl ?_
    refine mm_aload_n (j := 3) dL_law_972 rfl rfl ?_
    refine mm_aload_n (j := 1) dL_law_973 rfl rfl ?_
    refine mm_iload (j := 5) dL_law_974 rfl ?_
    refine mm_iconst (v := 1) dL_law_976 (by decide) ?_
    refine mm_iadd dL_law_977 ?_
    refine lw_sld (lw_in hi (by decide)) dL_law_978 ?_
    refine mm_callVi cd_ok (kX9_open o9 (xs (i + 1).toNatClampNeg) hf9) h9 rfl (Or.inl tw_1097) cdX9_open tw_1098 tw_1099 nmX9_open rfl rfl (by simp only [List.map_cons, List.map_nil, mm_rf_cat]; exact Nat.le_of_ble_eq_true rfl) dL_law_979 ⟨Nat.le_of_ble_eq_true rfl, Nat.le_of_ble_eq_true rfl⟩ ⟨by have := hc.1; show ck + 1 + 0 ≤ 600002; omega, by have := hc.2; show sk + 6 + 0 ≤ 7302232; omega⟩ ?_
    refine mm_istore (L' := [(6, .int R9.1), (5, .int 1), (0, .ref b), (1, .ref o8), (2, .ref o9), (3, .ref out), (4, .int i)]) dL_law_982 (by decide) rfl ?_
    refine mm_aload_n (j := 4) dL_law_984 rfl rfl ?_
    refine mm_callVi cd_ok (kX9_thrown o9 (show fX9_thrown o9 R9.2 = some (mm_I R9.2 o9 0, R9.2) from by unfold fX9_thrown mm_sh; rw [if_pos h9b])) h9b rfl (Or.inl tw_933) cdX9_thrown tw_934 tw_935 nmX9_thrown rfl rfl (by simp only [List.map_cons, List.map_nil, mm_rf_cat]; exact Nat.le_of_ble_eq_true rfl) dL_law_985 ⟨Nat.le_of_ble_eq_true rfl, Nat.le_of_ble_eq_true rfl⟩ ⟨by have := hc.1; show ck + 1 + 0 + 0 ≤ 600002; omega, by have := hc.2; show sk + 6 + 0 + 0 ≤ 7302232; omega⟩ ?_
    refine mm_iload (j := 1) dL_law_988 rfl ?_
    refine mm_icmp_eq (tgt := 995) dL_law_990 (by decide) (fun _ => ?_) (fun h => absurd ht h)
    refine mm_iload (j := 1) dL_law_995 rfl ?_
    refine mm_if_ne (tgt := 1012) dL_law_997 (by decide) (fun _ => ?_) (fun h => absurd h (by decide))
    refine mm_goto (tgt := 1288) dL_law_1012 (by decide) ?_
    refine mm_sub [2, 3, 4, 5, 6] rfl ?_
    refine mm_widen (ck' := ck + 1) (sk' := sk + 6) (by show ck + 1 + 0 + 0 ≤ ck + 1; omega) (by show sk + 6 + 0 + 0 ≤ sk + 6; omega) ?_
    exact kk _ hN
set_option maxHeartbeats 4000000 in
set_option maxRecDepth 100000 in
theorem bL_watch {G : mm_G} {A : Nat → Prop} {b L o8 o9 out : Nat} {xs : Nat → Int32} {i : Int32} {σ : mm_M} {ck sk : Nat} {N : mm_M → Prop} (hi : 0 ≤ i.toInt ∧ i.toInt + 6 ≤ L ∧ L ≤ 4000) (hc : ck + 1 ≤ 600002 ∧ sk + 6 ≤ 7302232) (h8 : σ.2.1 o8 = some (.inl 8)) (hst : lw_step (fun τ => fX8_watch o8 (xs (i + 1).toNatClampNeg) (xs (i + 2).toNatClampNeg) τ) (fun τ => fX9_watch o9 (xs (i + 1).toNatClampNeg) (xs (i + 2).toNatClampNeg) τ) o9 out σ N) (kk : ∀ σ', N σ' → JL G A b L xs 1288 [(0, .ref b), (1, .ref o8), (2, .ref o9), (3, .ref out), (4, .int i)] [] σ' (ck + 1) (sk + 6)) : JL G A b L xs 1015 [(0, .ref b), (1, .ref o8), (2, .ref o9), (3, .ref out), (4, .int i)] [] σ ck sk := by
  refine mm_aload_n (j := 1) dL_law_1015 rfl rfl ?_
  refine mm_aload_n (j := 0) dL_law_1016 rfl rfl ?_
  refine mm_iload (j := 4) dL_law_1017 rfl ?_
  refine mm_iconst (v := 1) dL_law_1019 (by decide) ?_
  refine mm_iadd dL_law_1020 ?_
  refine lw_sld (lw_in hi (by decide)) dL_law_1021 ?_
  refine mm_aload_n (j := 0) dL_law_1022 rfl rfl ?_
  refine mm_iload (j := 4) dL_law_1023 rfl ?_
  refine mm_iconst (v := 2) dL_law_1025 (by decide) ?_
  refine mm_iadd dL_law_1026 ?_
  refine lw_sld (lw_in hi (by decide)) dL_law_1027 ?_
  refine mm_aload_n (j := 3) dL_law_1028 rfl rfl ?_
  obtain ⟨Rr, hf8, hso, hs0, hs1⟩ := hst
  refine lw_callH (kL_watch o8 (xs (i + 1).toNatClampNeg) (xs (i + 2).toNatClampNeg) out hf8 h8 hso (by decide)) tw_666 tw_668 tw_0 tw_667 nmL_watch rfl rfl (by simp only [List.map_cons, List.map_nil, mm_rf_cat]; exact Nat.le_of_ble_eq_true rfl) dL_law_1029 ⟨Nat.le_of_ble_eq_true rfl, Nat.le_of_ble_eq_true rfl⟩ ⟨by have := hc.1; show ck + 1 ≤ 600002; omega, by have := hc.2; show sk + 6 ≤ 7302232; omega⟩ (fun r hr => ?_) (fun hr z => ?_)
  · obtain ⟨h9, R9, hf9, h9b, ht, hb9, hso9, hlo, hN⟩ := hs0 r hr
    refine mm_istore (L' := [(5, .int 0), (0, .ref b), (1, .ref o8), (2, .ref o9), (3, .ref out), (4, .int i)]) dL_law_1032 (by decide) rfl ?_
    refine mm_aload_n (j := 3) dL_law_1034 rfl rfl ?_
    refine mm_aload_n (j := 1) dL_law_1035 rfl rfl ?_
    refine mm_iload (j := 5) dL_law_1036 rfl ?_
    refine mm_iconst (v := 1) dL_law_1038 (by decide) ?_
    refine mm_iadd dL_law_1039 ?_
    refine lw_sld (lw_in hi (by decide)) dL_law_1040 ?_
    refine mm_aload_n (j := 1) dL_law_1041 rfl rfl ?_
    refine mm_iload (j := 5) dL_law_1042 rfl ?_
    refine mm_iconst (v := 2) dL_law_1044 (by decide) ?_
    refine mm_iadd dL_law_1045 ?_
    refine lw_sld (lw_in hi (by decide)) dL_law_1046 ?_
    refine mm_callVi cd_ok (kX9_watch o9 (xs (i + 1).toNatClampNeg) (xs (i + 2).toNatClampNeg) hf9) h9 rfl (Or.inl tw_1105) cdX9_watch tw_1106 tw_1107 nmX9_watch rfl rfl (by simp only [List.map_cons, List.map_nil, mm_rf_cat]; exact Nat.le_of_ble_eq_true rfl) dL_law_1047 ⟨Nat.le_of_ble_eq_true rfl, Nat.le_of_ble_eq_true rfl⟩ ⟨by have := hc.1; show ck + 1 + 0 ≤ 600002; omega, by have := hc.2; show sk + 6 + 0 ≤ 7302232; omega⟩ ?_
    refine mm_istore (L' := [(6, .int R9.1), (5, .int 0), (0, .ref b), (1, .ref o8), (2, .ref o9), (3, .ref out), (4, .int i)]) dL_law_1050 (by decide) rfl ?_
    refine mm_aload_n (j := 4) dL_law_1052 rfl rfl ?_
    refine mm_callVi cd_ok (kX9_thrown o9 (show fX9_thrown o9 R9.2 = some (mm_I R9.2 o9 0, R9.2) from by unfold fX9_thrown mm_sh; rw [if_pos h9b])) h9b rfl (Or.inl tw_933) cdX9_thrown tw_934 tw_935 nmX9_thrown rfl rfl (by simp only [List.map_cons, List.map_nil, mm_rf_cat]; exact Nat.le_of_ble_eq_true rfl) dL_law_1053 ⟨Nat.le_of_ble_eq_true rfl, Nat.le_of_ble_eq_true rfl⟩ ⟨by have := hc.1; show ck + 1 + 0 + 0 ≤ 600002; omega, by have := hc.2; show sk + 6 + 0 + 0 ≤ 7302232; omega⟩ ?_
    refine mm_iload (j := 1) dL_law_1056 rfl ?_
    refine mm_icmp_eq (tgt := 1063) dL_law_1058 (by decide) (fun _ => ?_) (fun h => absurd ht h)
    refine mm_iload (j := 1) dL_law_1063 rfl ?_
    refine mm_if_ne (tgt := 1080) dL_law_1065 (by decide) (fun h => absurd rfl h) (fun _ => ?_)
    refine mm_aload_n (j := 5) dL_law_1068 rfl rfl ?_
    refine mm_iconst (v := 0) dL_law_1069 (by decide) ?_
    refine mm_lald hso9 rfl (mm_in0 (by decide)) dL_law_1070 ?_
    refine mm_iload (j := 0) dL_law_1071 rfl ?_
    refine mm_i2l dL_law_1073 ?_
    refine lw_lcmp dL_law_1074 ?_
    refine mm_if_eq (tgt := 1080) dL_law_1075 (by decide) (fun _ => ?_) (fun h => absurd (by rw [hlo, hb9]; exact lw_cmp_eq _) h)
    refine mm_goto (tgt := 1288) dL_law_1080 (by decide) ?_
    refine mm_sub [2, 3, 4, 5, 6] rfl ?_
    refine mm_widen (ck' := ck + 1) (sk' := sk + 6) (by show ck + 1 + 0 + 0 ≤ ck + 1; omega) (by show sk + 6 + 0 + 0 ≤ sk + 6; omega) ?_
    exact kk _ hN
  · refine lw_lt (fun hlt => ?_)
    obtain ⟨h9, R9, hf9, h9b, ht, hN⟩ := hs1 hr z hlt
    refine mm_istore (L' := [(5, .int 1), (0, .ref b), (1, .ref o8), (2, .ref o9), (3, .ref out), (4, .int i)]) dL_law_1032 (by decide) rfl ?_
    refine mm_aload_n (j := 3) dL_law_1034 rfl rfl ?_
    refine mm_aload_n (j := 1) dL_law_1035 rfl rfl ?_
    refine mm_iload (j := 5) dL_law_1036 rfl ?_
    refine mm_iconst (v := 1) dL_law_1038 (by decide) ?_
    refine mm_iadd dL_law_1039 ?_
    refine lw_sld (lw_in hi (by decide)) dL_law_1040 ?_
    refine mm_aload_n (j := 1) dL_law_1041 rfl rfl ?_
    refine mm_iload (j := 5) dL_law_1042 rfl ?_
    refine mm_iconst (v := 2) dL_law_1044 (by decide) ?_
    refine mm_iadd dL_law_1045 ?_
    refine lw_sld (lw_in hi (by decide)) dL_law_1046 ?_
    refine mm_callVi cd_ok (kX9_watch o9 (xs (i + 1).toNatClampNeg) (xs (i + 2).toNatClampNeg) hf9) h9 rfl (Or.inl tw_1105) cdX9_watch tw_1106 tw_1107 nmX9_watch rfl rfl (by simp only [List.map_cons, List.map_nil, mm_rf_cat]; exact Nat.le_of_ble_eq_true rfl) dL_law_1047 ⟨Nat.le_of_ble_eq_true rfl, Nat.le_of_ble_eq_true rfl⟩ ⟨by have := hc.1; show ck + 1 + 0 ≤ 600002; omega, by have := hc.2; show sk + 6 + 0 ≤ 7302232; omega⟩ ?_
    refine mm_istore (L' := [(6, .int R9.1), (5, .int 1), (0, .ref b), (1, .ref o8), (2, .ref o9), (3, .ref out), (4, .int i)]) dL_law_1050 (by decide) rfl ?_
    refine mm_aload_n (j := 4) dL_law_1052 rfl rfl ?_
    refine mm_callVi cd_ok (kX9_thrown o9 (show fX9_thrown o9 R9.2 = some (mm_I R9.2 o9 0, R9.2) from by unfold fX9_thrown mm_sh; rw [if_pos h9b])) h9b rfl (Or.inl tw_933) cdX9_thrown tw_934 tw_935 nmX9_thrown rfl rfl (by simp only [List.map_cons, List.map_nil, mm_rf_cat]; exact Nat.le_of_ble_eq_true rfl) dL_law_1053 ⟨Nat.le_of_ble_eq_true rfl, Nat.le_of_ble_eq_true rfl⟩ ⟨by have := hc.1; show ck + 1 + 0 + 0 ≤ 600002; omega, by have := hc.2; show sk + 6 + 0 + 0 ≤ 7302232; omega⟩ ?_
    refine mm_iload (j := 1) dL_law_1056 rfl ?_
    refine mm_icmp_eq (tgt := 1063) dL_law_1058 (by decide) (fun _ => ?_) (fun h => absurd ht h)
    refine mm_iload (j := 1) dL_law_1063 rfl ?_
    refine mm_if_ne (tgt := 1080) dL_law_1065 (by decide) (fun _ => ?_) (fun h => absurd h (by decide))
    refine mm_goto (tgt := 1288) dL_law_1080 (by decide) ?_
    refine mm_sub [2, 3, 4, 5, 6] rfl ?_
    refine mm_widen (ck' := ck + 1) (sk' := sk + 6) (by show ck + 1 + 0 + 0 ≤ ck + 1; omega) (by show sk + 6 + 0 + 0 ≤ sk + 6; omega) ?_
    exact kk _ hN
set_option maxHeartbeats 4000000 in
set_option maxRecDepth 100000 in
theorem bL_tick {G : mm_G} {A : Nat → Prop} {b L o8 o9 out : Nat} {xs : Nat → Int32} {i : Int32} {σ : mm_M} {ck sk : Nat} {N : mm_M → Prop} (hi : 0 ≤ i.toInt ∧ i.toInt + 6 ≤ L ∧ L ≤ 4000) (hc : ck + 10 ≤ 600002 ∧ sk + 2020 ≤ 7302232) (h8 : σ.2.1 o8 = some (.inl 8)) (hst : lw_step (fun τ => fX8_tick o8 (xs (i + 1).toNatClampNeg) τ) (fun τ => fX9_tick o9 (xs (i + 1).toNatClampNeg) τ) o9 out σ N) (kk : ∀ σ', N σ' → JL G A b L xs 1288 [(0, .ref b), (1, .ref o8), (2, .ref o9), (3, .ref out), (4, .int i)] [] σ' (ck + 10) (sk + 2020)) : JL G A b L xs 1083 [(0, .ref b), (1, .ref o8), (2, .ref o9), (3, .ref out), (4, .int i)] [] σ ck sk := by
  refine mm_aload_n (j := 1) dL_law_1083 rfl rfl ?_
  refine mm_aload_n (j := 0) dL_law_1084 rfl rfl ?_
  refine mm_iload (j := 4) dL_law_1085 rfl ?_
  refine mm_iconst (v := 1) dL_law_1087 (by decide) ?_
  refine mm_iadd dL_law_1088 ?_
  refine lw_sld (lw_in hi (by decide)) dL_law_1089 ?_
  refine mm_aload_n (j := 3) dL_law_1090 rfl rfl ?_
  obtain ⟨Rr, hf8, hso, hs0, hs1⟩ := hst
  refine lw_callH (kL_tick o8 (xs (i + 1).toNatClampNeg) out hf8 h8 hso (by decide)) tw_695 tw_697 tw_0 tw_696 nmL_tick rfl rfl (by simp only [List.map_cons, List.map_nil, mm_rf_cat]; exact Nat.le_of_ble_eq_true rfl) dL_law_1091 ⟨Nat.le_of_ble_eq_true rfl, Nat.le_of_ble_eq_true rfl⟩ ⟨by have := hc.1; show ck + 10 ≤ 600002; omega, by have := hc.2; show sk + 2020 ≤ 7302232; omega⟩ (fun r hr => ?_) (fun hr z => ?_)
  · obtain ⟨h9, R9, hf9, h9b, ht, hb9, hso9, hlo, hN⟩ := hs0 r hr
    refine mm_istore (L' := [(5, .int 0), (0, .ref b), (1, .ref o8), (2, .ref o9), (3, .ref out), (4, .int i)]) dL_law_1094 (by decide) rfl ?_
    refine mm_aload_n (j := 3) dL_law_1096 rfl rfl ?_
    refine mm_aload_n (j := 1) dL_law_1097 rfl rfl ?_
    refine mm_iload (j := 5) dL_law_1098 rfl ?_
    refine mm_iconst (v := 1) dL_law_1100 (by decide) ?_
    refine mm_iadd dL_law_1101 ?_
    refine lw_sld (lw_in hi (by decide)) dL_law_1102 ?_
    refine mm_callVi cd_ok (kX9_tick o9 (xs (i + 1).toNatClampNeg) hf9) h9 rfl (Or.inl tw_1109) cdX9_tick tw_1110 tw_1111 nmX9_tick rfl rfl (by simp only [List.map_cons, List.map_nil, mm_rf_cat]; exact Nat.le_of_ble_eq_true rfl) dL_law_1103 ⟨Nat.le_of_ble_eq_true rfl, Nat.le_of_ble_eq_true rfl⟩ ⟨by have := hc.1; show ck + 10 + 0 ≤ 600002; omega, by have := hc.2; show sk + 2020 + 0 ≤ 7302232; omega⟩ ?_
    refine mm_istore (L' := [(6, .int R9.1), (5, .int 0), (0, .ref b), (1, .ref o8), (2, .ref o9), (3, .ref out), (4, .int i)]) dL_law_1106 (by decide) rfl ?_
    refine mm_aload_n (j := 4) dL_law_1108 rfl rfl ?_
    refine mm_callVi cd_ok (kX9_thrown o9 (show fX9_thrown o9 R9.2 = some (mm_I R9.2 o9 0, R9.2) from by unfold fX9_thrown mm_sh; rw [if_pos h9b])) h9b rfl (Or.inl tw_933) cdX9_thrown tw_934 tw_935 nmX9_thrown rfl rfl (by simp only [List.map_cons, List.map_nil, mm_rf_cat]; exact Nat.le_of_ble_eq_true rfl) dL_law_1109 ⟨Nat.le_of_ble_eq_true rfl, Nat.le_of_ble_eq_true rfl⟩ ⟨by have := hc.1; show ck + 10 + 0 + 0 ≤ 600002; omega, by have := hc.2; show sk + 2020 + 0 + 0 ≤ 7302232; omega⟩ ?_
    refine mm_iload (j := 1) dL_law_1112 rfl ?_
    refine mm_icmp_eq (tgt := 1119) dL_law_1114 (by decide) (fun _ => ?_) (fun h => absurd ht h)
    refine mm_iload (j := 1) dL_law_1119 rfl ?_
    refine mm_if_ne (tgt := 1136) dL_law_1121 (by decide) (fun h => absurd rfl h) (fun _ => ?_)
    refine mm_aload_n (j := 5) dL_law_1124 rfl rfl ?_
    refine mm_iconst (v := 0) dL_law_1125 (by decide) ?_
    refine mm_lald hso9 rfl (mm_in0 (by decide)) dL_law_1126 ?_
    refine mm_iload (j := 0) dL_law_1127 rfl ?_
    refine mm_i2l dL_law_1129 ?_
    refine lw_lcmp dL_law_1130 ?_
    refine mm_if_eq (tgt := 1136) dL_law_1131 (by decide) (fun _ => ?_) (fun h => absurd (by rw [hlo, hb9]; exact lw_cmp_eq _) h)
    refine mm_goto (tgt := 1288) dL_law_1136 (by decide) ?_
    refine mm_sub [2, 3, 4, 5, 6] rfl ?_
    refine mm_widen (ck' := ck + 10) (sk' := sk + 2020) (by show ck + 10 + 0 + 0 ≤ ck + 10; omega) (by show sk + 2020 + 0 + 0 ≤ sk + 2020; omega) ?_
    exact kk _ hN
  · refine lw_lt (fun hlt => ?_)
    obtain ⟨h9, R9, hf9, h9b, ht, hN⟩ := hs1 hr z hlt
    refine mm_istore (L' := [(5, .int 1), (0, .ref b), (1, .ref o8), (2, .ref o9), (3, .ref out), (4, .int i)]) dL_law_1094 (by decide) rfl ?_
    refine mm_aload_n (j := 3) dL_law_1096 rfl rfl ?_
    refine mm_aload_n (j := 1) dL_law_1097 rfl rfl ?_
    refine mm_iload (j := 5) dL_law_1098 rfl ?_
    refine mm_iconst (v := 1) dL_law_1100 (by decide) ?_
    refine mm_iadd dL_law_1101 ?_
    refine lw_sld (lw_in hi (by decide)) dL_law_1102 ?_
    refine mm_callVi cd_ok (kX9_tick o9 (xs (i + 1).toNatClampNeg) hf9) h9 rfl (Or.inl tw_1109) cdX9_tick tw_1110 tw_1111 nmX9_tick rfl rfl (by simp only [List.map_cons, List.map_nil, mm_rf_cat]; exact Nat.le_of_ble_eq_true rfl) dL_law_1103 ⟨Nat.le_of_ble_eq_true rfl, Nat.le_of_ble_eq_true rfl⟩ ⟨by have := hc.1; show ck + 10 + 0 ≤ 600002; omega, by have := hc.2; show sk + 2020 + 0 ≤ 7302232; omega⟩ ?_
    refine mm_istore (L' := [(6, .int R9.1), (5, .int 1), (0, .ref b), (1, .ref o8), (2, .ref o9), (3, .ref out), (4, .int i)]) dL_law_1106 (by decide) rfl ?_
    refine mm_aload_n (j := 4) dL_law_1108 rfl rfl ?_
    refine mm_callVi cd_ok (kX9_thrown o9 (show fX9_thrown o9 R9.2 = some (mm_I R9.2 o9 0, R9.2) from by unfold fX9_thrown mm_sh; rw [if_pos h9b])) h9b rfl (Or.inl tw_933) cdX9_thrown tw_934 tw_935 nmX9_thrown rfl rfl (by simp only [List.map_cons, List.map_nil, mm_rf_cat]; exact Nat.le_of_ble_eq_true rfl) dL_law_1109 ⟨Nat.le_of_ble_eq_true rfl, Nat.le_of_ble_eq_true rfl⟩ ⟨by have := hc.1; show ck + 10 + 0 + 0 ≤ 600002; omega, by have := hc.2; show sk + 2020 + 0 + 0 ≤ 7302232; omega⟩ ?_
    refine mm_iload (j := 1) dL_law_1112 rfl ?_
    refine mm_icmp_eq (tgt := 1119) dL_law_1114 (by decide) (fun _ => ?_) (fun h => absurd ht h)
    refine mm_iload (j := 1) dL_law_1119 rfl ?_
    refine mm_if_ne (tgt := 1136) dL_law_1121 (by decide) (fun _ => ?_) (fun h => absurd h (by decide))
    refine mm_goto (tgt := 1288) dL_law_1136 (by decide) ?_
    refine mm_sub [2, 3, 4, 5, 6] rfl ?_
    refine mm_widen (ck' := ck + 10) (sk' := sk + 2020) (by show ck + 10 + 0 + 0 ≤ ck + 10; omega) (by show sk + 2020 + 0 + 0 ≤ sk + 2020; omega) ?_
    exact kk _ hN
set_option maxHeartbeats 4000000 in
set_option maxRecDepth 100000 in
theorem bL_cues {G : mm_G} {A : Nat → Prop} {b L o8 o9 out : Nat} {xs : Nat → Int32} {i : Int32} {σ : mm_M} {ck sk : Nat} {N : mm_M → Prop} (hi : 0 ≤ i.toInt ∧ i.toInt + 6 ≤ L ∧ L ≤ 4000) (hc : ck + 0 ≤ 600002 ∧ sk + 0 ≤ 7302232) (h8 : σ.2.1 o8 = some (.inl 8)) (hst : lw_stepI (fun τ => fX8_cues o8  τ) (fun τ => fX9_cues o9  τ) o9 σ N) (kk : ∀ σ', N σ' → JL G A b L xs 1288 [(0, .ref b), (1, .ref o8), (2, .ref o9), (3, .ref out), (4, .int i)] [] σ' (ck + 0) (sk + 0)) : JL G A b L xs 1139 [(0, .ref b), (1, .ref o8), (2, .ref o9), (3, .ref out), (4, .int i)] [] σ ck sk := by
  refine mm_aload_n (j := 1) dL_law_1139 rfl rfl ?_
  obtain ⟨R8, hf8, h9, R9, hf9, hb9, hN⟩ := hst
  refine mm_callVi cd_ok (kX8_cues o8 hf8) h8 rfl (Or.inl tw_227) cdX8_cues tw_228 tw_229 nmX8_cues rfl rfl (by simp only [List.map_cons, List.map_nil, mm_rf_cat]; exact Nat.le_of_ble_eq_true rfl) dL_law_1140 ⟨Nat.le_of_ble_eq_true rfl, Nat.le_of_ble_eq_true rfl⟩ ⟨by have := hc.1; show ck + 0 ≤ 600002; omega, by have := hc.2; show sk + 0 ≤ 7302232; omega⟩ ?_
  refine mm_aload_n (j := 2) dL_law_1143 rfl rfl ?_
  refine mm_callVi cd_ok (kX9_cues o9 hf9) h9 rfl (Or.inl tw_1126) cdX9_cues tw_1127 tw_1128 nmX9_cues rfl rfl (by simp only [List.map_cons, List.map_nil, mm_rf_cat]; exact Nat.le_of_ble_eq_true rfl) dL_law_1144 ⟨Nat.le_of_ble_eq_true rfl, Nat.le_of_ble_eq_true rfl⟩ ⟨by have := hc.1; show ck + 0 + 0 ≤ 600002; omega, by have := hc.2; show sk + 0 + 0 ≤ 7302232; omega⟩ ?_
  refine mm_icmp_eq (tgt := 1288) dL_law_1147 (by decide) (fun _ => ?_) (fun h => absurd hb9.symm h)
  refine mm_sub [0, 1, 2, 3, 4] rfl ?_
  refine mm_widen (ck' := ck + 0) (sk' := sk + 0) (by show ck + 0 + 0 ≤ ck + 0; omega) (by show sk + 0 + 0 ≤ sk + 0; omega) ?_
  exact kk _ hN
set_option maxHeartbeats 4000000 in
set_option maxRecDepth 100000 in
theorem bL_cue {G : mm_G} {A : Nat → Prop} {b L o8 o9 out : Nat} {xs : Nat → Int32} {i : Int32} {σ : mm_M} {ck sk : Nat} {N : mm_M → Prop} (hi : 0 ≤ i.toInt ∧ i.toInt + 6 ≤ L ∧ L ≤ 4000) (hc : ck + 1 ≤ 600002 ∧ sk + 6 ≤ 7302232) (h8 : σ.2.1 o8 = some (.inl 8)) (hst : lw_step (fun τ => fX8_cue o8 (xs (i + 1).toNatClampNeg) (xs (i + 2).toNatClampNeg) τ) (fun τ => fX9_cue o9 (xs (i + 1).toNatClampNeg) (xs (i + 2).toNatClampNeg) τ) o9 out σ N) (kk : ∀ σ', N σ' → JL G A b L xs 1288 [(0, .ref b), (1, .ref o8), (2, .ref o9), (3, .ref out), (4, .int i)] [] σ' (ck + 1) (sk + 6)) : JL G A b L xs 1152 [(0, .ref b), (1, .ref o8), (2, .ref o9), (3, .ref out), (4, .int i)] [] σ ck sk := by
  refine mm_aload_n (j := 1) dL_law_1152 rfl rfl ?_
  refine mm_aload_n (j := 0) dL_law_1153 rfl rfl ?_
  refine mm_iload (j := 4) dL_law_1154 rfl ?_
  refine mm_iconst (v := 1) dL_law_1156 (by decide) ?_
  refine mm_iadd dL_law_1157 ?_
  refine lw_sld (lw_in hi (by decide)) dL_law_1158 ?_
  refine mm_aload_n (j := 0) dL_law_1159 rfl rfl ?_
  refine mm_iload (j := 4) dL_law_1160 rfl ?_
  refine mm_iconst (v := 2) dL_law_1162 (by decide) ?_
  refine mm_iadd dL_law_1163 ?_
  refine lw_sld (lw_in hi (by decide)) dL_law_1164 ?_
  refine mm_aload_n (j := 3) dL_law_1165 rfl rfl ?_
  obtain ⟨Rr, hf8, hso, hs0, hs1⟩ := hst
  refine lw_callH (kL_cue o8 (xs (i + 1).toNatClampNeg) (xs (i + 2).toNatClampNeg) out hf8 h8 hso (by decide)) tw_772 tw_774 tw_0 tw_773 nmL_cue rfl rfl (by simp only [List.map_cons, List.map_nil, mm_rf_cat]; exact Nat.le_of_ble_eq_true rfl) dL_law_1166 ⟨Nat.le_of_ble_eq_true rfl, Nat.le_of_ble_eq_true rfl⟩ ⟨by have := hc.1; show ck + 1 ≤ 600002; omega, by have := hc.2; show sk + 6 ≤ 7302232; omega⟩ (fun r hr => ?_) (fun hr z => ?_)
  · obtain ⟨h9, R9, hf9, h9b, ht, hb9, hso9, hlo, hN⟩ := hs0 r hr
    refine mm_istore (L' := [(5, .int 0), (0, .ref b), (1, .ref o8), (2, .ref o9), (3, .ref out), (4, .int i)]) dL_law_1169 (by decide) rfl ?_
    refine mm_aload_n (j := 3) dL_law_1171 rfl rfl ?_
    refine mm_aload_n (j := 1) dL_law_1172 rfl rfl ?_
    refine mm_iload (j := 5) dL_law_1173 rfl ?_
    refine mm_iconst (v := 1) dL_law_1175 (by decide) ?_
    refine mm_iadd dL_law_1176 ?_
    refine lw_sld (lw_in hi (by decide)) dL_law_1177 ?_
    refine mm_aload_n (j := 1) dL_law_1178 rfl rfl ?_
    refine mm_iload (j := 5) dL_law_1179 rfl ?_
    refine mm_iconst (v := 2) dL_law_1181 (by decide) ?_
    refine mm_iadd dL_law_1182 ?_
    refine lw_sld (lw_in hi (by decide)) dL_law_1183 ?_
    refine mm_callVi cd_ok (kX9_cue o9 (xs (i + 1).toNatClampNeg) (xs (i + 2).toNatClampNeg) hf9) h9 rfl (Or.inl tw_1130) cdX9_cue tw_1131 tw_1132 nmX9_cue rfl rfl (by simp only [List.map_cons, List.map_nil, mm_rf_cat]; exact Nat.le_of_ble_eq_true rfl) dL_law_1184 ⟨Nat.le_of_ble_eq_true rfl, Nat.le_of_ble_eq_true rfl⟩ ⟨by have := hc.1; show ck + 1 + 0 ≤ 600002; omega, by have := hc.2; show sk + 6 + 0 ≤ 7302232; omega⟩ ?_
    refine mm_istore (L' := [(6, .int R9.1), (5, .int 0), (0, .ref b), (1, .ref o8), (2, .ref o9), (3, .ref out), (4, .int i)]) dL_law_1187 (by decide) rfl ?_
    refine mm_aload_n (j := 4) dL_law_1189 rfl rfl ?_
    refine mm_callVi cd_ok (kX9_thrown o9 (show fX9_thrown o9 R9.2 = some (mm_I R9.2 o9 0, R9.2) from by unfold fX9_thrown mm_sh; rw [if_pos h9b])) h9b rfl (Or.inl tw_933) cdX9_thrown tw_934 tw_935 nmX9_thrown rfl rfl (by simp only [List.map_cons, List.map_nil, mm_rf_cat]; exact Nat.le_of_ble_eq_true rfl) dL_law_1190 ⟨Nat.le_of_ble_eq_true rfl, Nat.le_of_ble_eq_true rfl⟩ ⟨by have := hc.1; show ck + 1 + 0 + 0 ≤ 600002; omega, by have := hc.2; show sk + 6 + 0 + 0 ≤ 7302232; omega⟩ ?_
    refine mm_iload (j := 1) dL_law_1193 rfl ?_
    refine mm_icmp_eq (tgt := 1200) dL_law_1195 (by decide) (fun _ => ?_) (fun h => absurd ht h)
    refine mm_iload (j := 1) dL_law_1200 rfl ?_
    refine mm_if_ne (tgt := 1217) dL_law_1202 (by decide) (fun h => absurd rfl h) (fun _ => ?_)
    refine mm_aload_n (j := 5) dL_law_1205 rfl rfl ?_
    refine mm_iconst (v := 0) dL_law_1206 (by decide) ?_
    refine mm_lald hso9 rfl (mm_in0 (by decide)) dL_law_1207 ?_
    refine mm_iload (j := 0) dL_law_1208 rfl ?_
    refine mm_i2l dL_law_1210 ?_
    refine lw_lcmp dL_law_1211 ?_
    refine mm_if_eq (tgt := 1217) dL_law_1212 (by decide) (fun _ => ?_) (fun h => absurd (by rw [hlo, hb9]; exact lw_cmp_eq _) h)
    refine mm_goto (tgt := 1288) dL_law_1217 (by decide) ?_
    refine mm_sub [2, 3, 4, 5, 6] rfl ?_
    refine mm_widen (ck' := ck + 1) (sk' := sk + 6) (by show ck + 1 + 0 + 0 ≤ ck + 1; omega) (by show sk + 6 + 0 + 0 ≤ sk + 6; omega) ?_
    exact kk _ hN
  · refine lw_lt (fun hlt => ?_)
    obtain ⟨h9, R9, hf9, h9b, ht, hN⟩ := hs1 hr z hlt
    refine mm_istore (L' := [(5, .int 1), (0, .ref b), (1, .ref o8), (2, .ref o9), (3, .ref out), (4, .int i)]) dL_law_1169 (by decide) rfl ?_
    refine mm_aload_n (j := 3) dL_law_1171 rfl rfl ?_
    refine mm_aload_n (j := 1) dL_law_1172 rfl rfl ?_
    refine mm_iload (j := 5) dL_law_1173 rfl ?_
    refine mm_iconst (v := 1) dL_law_1175 (by decide) ?_
    refine mm_iadd dL_law_1176 ?_
    refine lw_sld (lw_in hi (by decide)) dL_law_1177 ?_
    refine mm_aload_n (j := 1) dL_law_1178 rfl rfl ?_
    refine mm_iload (j := 5) dL_law_1179 rfl ?_
    refine mm_iconst (v := 2) dL_law_1181 (by decide) ?_
    refine mm_iadd dL_law_1182 ?_
    refine lw_sld (lw_in hi (by decide)) dL_law_1183 ?_
    refine mm_callVi cd_ok (kX9_cue o9 (xs (i + 1).toNatClampNeg) (xs (i + 2).toNatClampNeg) hf9) h9 rfl (Or.inl tw_1130) cdX9_cue tw_1131 tw_1132 nmX9_cue rfl rfl (by simp only [List.map_cons, List.map_nil, mm_rf_cat]; exact Nat.le_of_ble_eq_true rfl) dL_law_1184 ⟨Nat.le_of_ble_eq_true rfl, Nat.le_of_ble_eq_true rfl⟩ ⟨by have := hc.1; show ck + 1 + 0 ≤ 600002; omega, by have := hc.2; show sk + 6 + 0 ≤ 7302232; omega⟩ ?_
    refine mm_istore (L' := [(6, .int R9.1), (5, .int 1), (0, .ref b), (1, .ref o8), (2, .ref o9), (3, .ref out), (4, .int i)]) dL_law_1187 (by decide) rfl ?_
    refine mm_aload_n (j := 4) dL_law_1189 rfl rfl ?_
    refine mm_callVi cd_ok (kX9_thrown o9 (show fX9_thrown o9 R9.2 = some (mm_I R9.2 o9 0, R9.2) from by unfold fX9_thrown mm_sh; rw [if_pos h9b])) h9b rfl (Or.inl tw_933) cdX9_thrown tw_934 tw_935 nmX9_thrown rfl rfl (by simp only [List.map_cons, List.map_nil, mm_rf_cat]; exact Nat.le_of_ble_eq_true rfl) dL_law_1190 ⟨Nat.le_of_ble_eq_true rfl, Nat.le_of_ble_eq_true rfl⟩ ⟨by have := hc.1; show ck + 1 + 0 + 0 ≤ 600002; omega, by have := hc.2; show sk + 6 + 0 + 0 ≤ 7302232; omega⟩ ?_
    refine mm_iload (j := 1) dL_law_1193 rfl ?_
    refine mm_icmp_eq (tgt := 1200) dL_law_1195 (by decide) (fun _ => ?_) (fun h => absurd ht h)
    refine mm_iload (j := 1) dL_law_1200 rfl ?_
    refine mm_if_ne (tgt := 1217) dL_law_1202 (by decide) (fun _ => ?_) (fun h => absurd h (by decide))
    refine mm_goto (tgt := 1288) dL_law_1217 (by decide) ?_
    refine mm_sub [2, 3, 4, 5, 6] rfl ?_
    refine mm_widen (ck' := ck + 1) (sk' := sk + 6) (by show ck + 1 + 0 + 0 ≤ ck + 1; omega) (by show sk + 6 + 0 + 0 ≤ sk + 6; omega) ?_
    exact kk _ hN
set_option maxHeartbeats 4000000 in
set_option maxRecDepth 100000 in
theorem bL_line {G : mm_G} {A : Nat → Prop} {b L o8 o9 out : Nat} {xs : Nat → Int32} {i : Int32} {σ : mm_M} {ck sk : Nat} {N : mm_M → Prop} (hi : 0 ≤ i.toInt ∧ i.toInt + 6 ≤ L ∧ L ≤ 4000) (hc : ck + 1 ≤ 600002 ∧ sk + 6 ≤ 7302232) (h8 : σ.2.1 o8 = some (.inl 8)) (hst : lw_step (fun τ => fX8_line o8 (xs (i + 1).toNatClampNeg) (xs (i + 2).toNatClampNeg) τ) (fun τ => fX9_line o9 (xs (i + 1).toNatClampNeg) (xs (i + 2).toNatClampNeg) τ) o9 out σ N) (kk : ∀ σ', N σ' → JL G A b L xs 1288 [(0, .ref b), (1, .ref o8), (2, .ref o9), (3, .ref out), (4, .int i)] [] σ' (ck + 1) (sk + 6)) : JL G A b L xs 1220 [(0, .ref b), (1, .ref o8), (2, .ref o9), (3, .ref out), (4, .int i)] [] σ ck sk := by
  refine mm_aload_n (j := 1) dL_law_1220 rfl rfl ?_
  refine mm_aload_n (j := 0) dL_law_1221 rfl rfl ?_
  refine mm_iload (j := 4) dL_law_1222 rfl ?_
  refine mm_iconst (v := 1) dL_law_1224 (by decide) ?_
  refine mm_iadd dL_law_1225 ?_
  refine lw_sld (lw_in hi (by decide)) dL_law_1226 ?_
  refine mm_aload_n (j := 0) dL_law_1227 rfl rfl ?_
  refine mm_iload (j := 4) dL_law_1228 rfl ?_
  refine mm_iconst (v := 2) dL_law_1230 (by decide) ?_
  refine mm_iadd dL_law_1231 ?_
  refine lw_sld (lw_in hi (by decide)) dL_law_1232 ?_
  refine mm_aload_n (j := 3) dL_law_1233 rfl rfl ?_
  obtain ⟨Rr, hf8, hso, hs0, hs1⟩ := hst
  refine lw_callH (kL_line o8 (xs (i + 1).toNatClampNeg) (xs (i + 2).toNatClampNeg) out hf8 h8 hso (by decide)) tw_780 tw_782 tw_0 tw_781 nmL_line rfl rfl (by simp only [List.map_cons, List.map_nil, mm_rf_cat]; exact Nat.le_of_ble_eq_true rfl) dL_law_1234 ⟨Nat.le_of_ble_eq_true rfl, Nat.le_of_ble_eq_true rfl⟩ ⟨by have := hc.1; show ck + 1 ≤ 600002; omega, by have := hc.2; show sk + 6 ≤ 7302232; omega⟩ (fun r hr => ?_) (fun hr z => ?_)
  · obtain ⟨h9, R9, hf9, h9b, ht, hb9, hso9, hlo, hN⟩ := hs0 r hr
    refine mm_istore (L' := [(5, .int 0), (0, .ref b), (1, .ref o8), (2, .ref o9), (3, .ref out), (4, .int i)]) dL_law_1237 (by decide) rfl ?_
    refine mm_aload_n (j := 3) dL_law_1239 rfl rfl ?_
    refine mm_aload_n (j := 1) dL_law_1240 rfl rfl ?_
    refine mm_iload (j := 5) dL_law_1241 rfl ?_
    refine mm_iconst (v := 1) dL_law_1243 (by decide) ?_
    refine mm_iadd dL_law_1244 ?_
    refine lw_sld (lw_in hi (by decide)) dL_law_1245 ?_
    refine mm_aload_n (j := 1) dL_law_1246 rfl rfl ?_
    refine mm_iload (j := 5) dL_law_1247 rfl ?_
    refine mm_iconst (v := 2) dL_law_1249 (by decide) ?_
    refine mm_iadd dL_law_1250 ?_
    refine lw_sld (lw_in hi (by decide)) dL_law_1251 ?_
    refine mm_callVi cd_ok (kX9_line o9 (xs (i + 1).toNatClampNeg) (xs (i + 2).toNatClampNeg) hf9) h9 rfl (Or.inl tw_1134) cdX9_line tw_1135 tw_1136 nmX9_line rfl rfl (by simp only [List.map_cons, List.map_nil, mm_rf_cat]; exact Nat.le_of_ble_eq_true rfl) dL_law_1252 ⟨Nat.le_of_ble_eq_true rfl, Nat.le_of_ble_eq_true rfl⟩ ⟨by have := hc.1; show ck + 1 + 0 ≤ 600002; omega, by have := hc.2; show sk + 6 + 0 ≤ 7302232; omega⟩ ?_
    refine mm_istore (L' := [(6, .int R9.1), (5, .int 0), (0, .ref b), (1, .ref o8), (2, .ref o9), (3, .ref out), (4, .int i)]) dL_law_1255 (by decide) rfl ?_
    refine mm_aload_n (j := 4) dL_law_1257 rfl rfl ?_
    refine mm_callVi cd_ok (kX9_thrown o9 (show fX9_thrown o9 R9.2 = some (mm_I R9.2 o9 0, R9.2) from by unfold fX9_thrown mm_sh; rw [if_pos h9b])) h9b rfl (Or.inl tw_933) cdX9_thrown tw_934 tw_935 nmX9_thrown rfl rfl (by simp only [List.map_cons, List.map_nil, mm_rf_cat]; exact Nat.le_of_ble_eq_true rfl) dL_law_1258 ⟨Nat.le_of_ble_eq_true rfl, Nat.le_of_ble_eq_true rfl⟩ ⟨by have := hc.1; show ck + 1 + 0 + 0 ≤ 600002; omega, by have := hc.2; show sk + 6 + 0 + 0 ≤ 7302232; omega⟩ ?_
    refine mm_iload (j := 1) dL_law_1261 rfl ?_
    refine mm_icmp_eq (tgt := 1268) dL_law_1263 (by decide) (fun _ => ?_) (fun h => absurd ht h)
    refine mm_iload (j := 1) dL_law_1268 rfl ?_
    refine mm_if_ne (tgt := 1285) dL_law_1270 (by decide) (fun h => absurd rfl h) (fun _ => ?_)
    refine mm_aload_n (j := 5) dL_law_1273 rfl rfl ?_
    refine mm_iconst (v := 0) dL_law_1274 (by decide) ?_
    refine mm_lald hso9 rfl (mm_in0 (by decide)) dL_law_1275 ?_
    refine mm_iload (j := 0) dL_law_1276 rfl ?_
    refine mm_i2l dL_law_1278 ?_
    refine lw_lcmp dL_law_1279 ?_
    refine mm_if_eq (tgt := 1285) dL_law_1280 (by decide) (fun _ => ?_) (fun h => absurd (by rw [hlo, hb9]; exact lw_cmp_eq _) h)
    refine mm_goto (tgt := 1288) dL_law_1285 (by decide) ?_
    refine mm_sub [2, 3, 4, 5, 6] rfl ?_
    refine mm_widen (ck' := ck + 1) (sk' := sk + 6) (by show ck + 1 + 0 + 0 ≤ ck + 1; omega) (by show sk + 6 + 0 + 0 ≤ sk + 6; omega) ?_
    exact kk _ hN
  · refine lw_lt (fun hlt => ?_)
    obtain ⟨h9, R9, hf9, h9b, ht, hN⟩ := hs1 hr z hlt
    refine mm_istore (L' := [(5, .int 1), (0, .ref b), (1, .ref o8), (2, .ref o9), (3, .ref out), (4, .int i)]) dL_law_1237 (by decide) rfl ?_
    refine mm_aload_n (j := 3) dL_law_1239 rfl rfl ?_
    refine mm_aload_n (j := 1) dL_law_1240 rfl rfl ?_
    refine mm_iload (j := 5) dL_law_1241 rfl ?_
    refine mm_iconst (v := 1) dL_law_1243 (by decide) ?_
    refine mm_iadd dL_law_1244 ?_
    refine lw_sld (lw_in hi (by decide)) dL_law_1245 ?_
    refine mm_aload_n (j := 1) dL_law_1246 rfl rfl ?_
    refine mm_iload (j := 5) dL_law_1247 rfl ?_
    refine mm_iconst (v := 2) dL_law_1249 (by decide) ?_
    refine mm_iadd dL_law_1250 ?_
    refine lw_sld (lw_in hi (by decide)) dL_law_1251 ?_
    refine mm_callVi cd_ok (kX9_line o9 (xs (i + 1).toNatClampNeg) (xs (i + 2).toNatClampNeg) hf9) h9 rfl (Or.inl tw_1134) cdX9_line tw_1135 tw_1136 nmX9_line rfl rfl (by simp only [List.map_cons, List.map_nil, mm_rf_cat]; exact Nat.le_of_ble_eq_true rfl) dL_law_1252 ⟨Nat.le_of_ble_eq_true rfl, Nat.le_of_ble_eq_true rfl⟩ ⟨by have := hc.1; show ck + 1 + 0 ≤ 600002; omega, by have := hc.2; show sk + 6 + 0 ≤ 7302232; omega⟩ ?_
    refine mm_istore (L' := [(6, .int R9.1), (5, .int 1), (0, .ref b), (1, .ref o8), (2, .ref o9), (3, .ref out), (4, .int i)]) dL_law_1255 (by decide) rfl ?_
    refine mm_aload_n (j := 4) dL_law_1257 rfl rfl ?_
    refine mm_callVi cd_ok (kX9_thrown o9 (show fX9_thrown o9 R9.2 = some (mm_I R9.2 o9 0, R9.2) from by unfold fX9_thrown mm_sh; rw [if_pos h9b])) h9b rfl (Or.inl tw_933) cdX9_thrown tw_934 tw_935 nmX9_thrown rfl rfl (by simp only [List.map_cons, List.map_nil, mm_rf_cat]; exact Nat.le_of_ble_eq_true rfl) dL_law_1258 ⟨Nat.le_of_ble_eq_true rfl, Nat.le_of_ble_eq_true rfl⟩ ⟨by have := hc.1; show ck + 1 + 0 + 0 ≤ 600002; omega, by have := hc.2; show sk + 6 + 0 + 0 ≤ 7302232; omega⟩ ?_
    refine mm_iload (j := 1) dL_law_1261 rfl ?_
    refine mm_icmp_eq (tgt := 1268) dL_law_1263 (by decide) (fun _ => ?_) (fun h => absurd ht h)
    refine mm_iload (j := 1) dL_law_1268 rfl ?_
    refine mm_if_ne (tgt := 1285) dL_law_1270 (by decide) (fun _ => ?_) (fun h => absurd h (by decide))
    refine mm_goto (tgt := 1288) dL_law_1285 (by decide) ?_
    refine mm_sub [2, 3, 4, 5, 6] rfl ?_
    refine mm_widen (ck' := ck + 1) (sk' := sk + 6) (by show ck + 1 + 0 + 0 ≤ ck + 1; omega) (by show sk + 6 + 0 + 0 ≤ sk + 6; omega) ?_
    exact kk _ hN
