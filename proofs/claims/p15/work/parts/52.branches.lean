set_option maxHeartbeats 4000000 in
set_option maxRecDepth 100000 in
theorem bL_pair {G : mm_G} {A : Nat → Prop} {b L o8 o9 out : Nat} {xs : Nat → Int32} {i : Int32} {σ : mm_M} {ck sk : Nat} {N : mm_M → Prop} {X : Option Int32 × mm_M → Int32 × mm_M → Prop} (hi : 0 ≤ i.toInt ∧ i.toInt + 6 ≤ L ∧ L ≤ 4000) (hc : ck + 1 ≤ 601024 ∧ sk + 6 ≤ 7293034) (h8 : σ.2.1 o8 = some (.inl 8)) (hst : lw_stepG (fun τ => fX8_pair o8 (xs (i + 1).toNatClampNeg) (xs (i + 2).toNatClampNeg) (xs (i + 3).toNatClampNeg) τ) (fun τ => fX9_pair o9 (xs (i + 1).toNatClampNeg) (xs (i + 2).toNatClampNeg) (xs (i + 3).toNatClampNeg) τ) o9 out σ N X) (kk : ∀ σ', N σ' → JL G A b L xs 896 [(0, .ref b), (1, .ref o8), (2, .ref o9), (3, .ref out), (4, .int i)] [] σ' (ck + 1) (sk + 6)) : JL G A b L xs 132 [(0, .ref b), (1, .ref o8), (2, .ref o9), (3, .ref out), (4, .int i)] [] σ ck sk := by
  refine mm_aload_n (j := 1) dL_law_132 rfl rfl ?_
  refine mm_aload_n (j := 0) dL_law_133 rfl rfl ?_
  refine mm_iload (j := 4) dL_law_134 rfl ?_
  refine mm_iconst (v := 1) dL_law_136 (by decide) ?_
  refine mm_iadd dL_law_137 ?_
  refine lw_sld (lw_in hi (by decide)) dL_law_138 ?_
  refine mm_aload_n (j := 0) dL_law_139 rfl rfl ?_
  refine mm_iload (j := 4) dL_law_140 rfl ?_
  refine mm_iconst (v := 2) dL_law_142 (by decide) ?_
  refine mm_iadd dL_law_143 ?_
  refine lw_sld (lw_in hi (by decide)) dL_law_144 ?_
  refine mm_aload_n (j := 0) dL_law_145 rfl rfl ?_
  refine mm_iload (j := 4) dL_law_146 rfl ?_
  refine mm_iconst (v := 3) dL_law_148 (by decide) ?_
  refine mm_iadd dL_law_149 ?_
  refine lw_sld (lw_in hi (by decide)) dL_law_150 ?_
  refine mm_aload_n (j := 3) dL_law_151 rfl rfl ?_
  obtain ⟨Rr, hf8, hso, hs0, hs1⟩ := hst
  refine lw_callH (kL_pair o8 (xs (i + 1).toNatClampNeg) (xs (i + 2).toNatClampNeg) (xs (i + 3).toNatClampNeg) out hf8 h8 hso (by decide)) tw_231 tw_233 tw_0 tw_232 nmL_pair rfl rfl (by simp only [List.map_cons, List.map_nil, mm_rf_cat]; exact Nat.le_of_ble_eq_true rfl) dL_law_152 ⟨Nat.le_of_ble_eq_true rfl, Nat.le_of_ble_eq_true rfl⟩ ⟨by have := hc.1; show ck + 1 ≤ 601024; omega, by have := hc.2; show sk + 6 ≤ 7293034; omega⟩ (fun r hr => ?_) (fun hr z => ?_)
  · obtain ⟨h9, R9, hf9, h9b, hso9, hlo, hN, -⟩ := hs0 r hr
    refine mm_istore (L' := [(5, .int 0), (0, .ref b), (1, .ref o8), (2, .ref o9), (3, .ref out), (4, .int i)]) dL_law_155 (by decide) rfl ?_
    refine mm_aload_n (j := 3) dL_law_157 rfl rfl ?_
    refine mm_aload_n (j := 1) dL_law_158 rfl rfl ?_
    refine mm_iload (j := 5) dL_law_159 rfl ?_
    refine mm_iconst (v := 1) dL_law_161 (by decide) ?_
    refine mm_iadd dL_law_162 ?_
    refine lw_sld (lw_in hi (by decide)) dL_law_163 ?_
    refine mm_aload_n (j := 1) dL_law_164 rfl rfl ?_
    refine mm_iload (j := 5) dL_law_165 rfl ?_
    refine mm_iconst (v := 2) dL_law_167 (by decide) ?_
    refine mm_iadd dL_law_168 ?_
    refine lw_sld (lw_in hi (by decide)) dL_law_169 ?_
    refine mm_aload_n (j := 1) dL_law_170 rfl rfl ?_
    refine mm_iload (j := 5) dL_law_171 rfl ?_
    refine mm_iconst (v := 3) dL_law_173 (by decide) ?_
    refine mm_iadd dL_law_174 ?_
    refine lw_sld (lw_in hi (by decide)) dL_law_175 ?_
    refine mm_callVi cd_ok (kX9_pair o9 (xs (i + 1).toNatClampNeg) (xs (i + 2).toNatClampNeg) (xs (i + 3).toNatClampNeg) hf9) h9 rfl (Or.inl tw_937) cdX9_pair tw_938 tw_939 nmX9_pair rfl rfl (by simp only [List.map_cons, List.map_nil, mm_rf_cat]; exact Nat.le_of_ble_eq_true rfl) dL_law_176 ⟨Nat.le_of_ble_eq_true rfl, Nat.le_of_ble_eq_true rfl⟩ ⟨by have := hc.1; show ck + 1 + 0 ≤ 601024; omega, by have := hc.2; show sk + 6 + 0 ≤ 7293034; omega⟩ ?_
    refine mm_istore (L' := [(6, .int R9.1), (5, .int 0), (0, .ref b), (1, .ref o8), (2, .ref o9), (3, .ref out), (4, .int i)]) dL_law_179 (by decide) rfl ?_
    refine mm_goto (tgt := 896) dL_law_181 (by decide) ?_
    refine mm_sub [2, 3, 4, 5, 6] rfl ?_
    refine mm_widen (ck' := ck + 1) (sk' := sk + 6) (by show ck + 1 + 0 ≤ ck + 1; omega) (by show sk + 6 + 0 ≤ sk + 6; omega) ?_
    exact kk _ hN
  · refine lw_lt (fun hlt => ?_)
    obtain ⟨h9, R9, hf9, h9b, hN, -⟩ := hs1 hr z hlt
    refine mm_istore (L' := [(5, .int 1), (0, .ref b), (1, .ref o8), (2, .ref o9), (3, .ref out), (4, .int i)]) dL_law_155 (by decide) rfl ?_
    refine mm_aload_n (j := 3) dL_law_157 rfl rfl ?_
    refine mm_aload_n (j := 1) dL_law_158 rfl rfl ?_
    refine mm_iload (j := 5) dL_law_159 rfl ?_
    refine mm_iconst (v := 1) dL_law_161 (by decide) ?_
    refine mm_iadd dL_law_162 ?_
    refine lw_sld (lw_in hi (by decide)) dL_law_163 ?_
    refine mm_aload_n (j := 1) dL_law_164 rfl rfl ?_
    refine mm_iload (j := 5) dL_law_165 rfl ?_
    refine mm_iconst (v := 2) dL_law_167 (by decide) ?_
    refine mm_iadd dL_law_168 ?_
    refine lw_sld (lw_in hi (by decide)) dL_law_169 ?_
    refine mm_aload_n (j := 1) dL_law_170 rfl rfl ?_
    refine mm_iload (j := 5) dL_law_171 rfl ?_
    refine mm_iconst (v := 3) dL_law_173 (by decide) ?_
    refine mm_iadd dL_law_174 ?_
    refine lw_sld (lw_in hi (by decide)) dL_law_175 ?_
    refine mm_callVi cd_ok (kX9_pair o9 (xs (i + 1).toNatClampNeg) (xs (i + 2).toNatClampNeg) (xs (i + 3).toNatClampNeg) hf9) h9 rfl (Or.inl tw_937) cdX9_pair tw_938 tw_939 nmX9_pair rfl rfl (by simp only [List.map_cons, List.map_nil, mm_rf_cat]; exact Nat.le_of_ble_eq_true rfl) dL_law_176 ⟨Nat.le_of_ble_eq_true rfl, Nat.le_of_ble_eq_true rfl⟩ ⟨by have := hc.1; show ck + 1 + 0 ≤ 601024; omega, by have := hc.2; show sk + 6 + 0 ≤ 7293034; omega⟩ ?_
    refine mm_istore (L' := [(6, .int R9.1), (5, .int 1), (0, .ref b), (1, .ref o8), (2, .ref o9), (3, .ref out), (4, .int i)]) dL_law_179 (by decide) rfl ?_
    refine mm_goto (tgt := 896) dL_law_181 (by decide) ?_
    refine mm_sub [2, 3, 4, 5, 6] rfl ?_
    refine mm_widen (ck' := ck + 1) (sk' := sk + 6) (by show ck + 1 + 0 ≤ ck + 1; omega) (by show sk + 6 + 0 ≤ sk + 6; omega) ?_
    exact kk _ hN
set_option maxHeartbeats 4000000 in
set_option maxRecDepth 100000 in
theorem bL_cell {G : mm_G} {A : Nat → Prop} {b L o8 o9 out : Nat} {xs : Nat → Int32} {i : Int32} {σ : mm_M} {ck sk : Nat} {N : mm_M → Prop} {X : Option Int32 × mm_M → Int32 × mm_M → Prop} (hi : 0 ≤ i.toInt ∧ i.toInt + 6 ≤ L ∧ L ≤ 4000) (hc : ck + 1 ≤ 601024 ∧ sk + 6 ≤ 7293034) (h8 : σ.2.1 o8 = some (.inl 8)) (hst : lw_stepG (fun τ => fX8_cell o8 (xs (i + 1).toNatClampNeg) (xs (i + 2).toNatClampNeg) (xs (i + 3).toNatClampNeg) (xs (i + 4).toNatClampNeg) (xs (i + 5).toNatClampNeg) τ) (fun τ => fX9_cell o9 (xs (i + 1).toNatClampNeg) (xs (i + 2).toNatClampNeg) (xs (i + 3).toNatClampNeg) (xs (i + 4).toNatClampNeg) (xs (i + 5).toNatClampNeg) τ) o9 out σ N X) (kk : ∀ σ', N σ' → JL G A b L xs 896 [(0, .ref b), (1, .ref o8), (2, .ref o9), (3, .ref out), (4, .int i)] [] σ' (ck + 1) (sk + 6)) : JL G A b L xs 184 [(0, .ref b), (1, .ref o8), (2, .ref o9), (3, .ref out), (4, .int i)] [] σ ck sk := by
  refine mm_aload_n (j := 1) dL_law_184 rfl rfl ?_
  refine mm_aload_n (j := 0) dL_law_185 rfl rfl ?_
  refine mm_iload (j := 4) dL_law_186 rfl ?_
  refine mm_iconst (v := 1) dL_law_188 (by decide) ?_
  refine mm_iadd dL_law_189 ?_
  refine lw_sld (lw_in hi (by decide)) dL_law_190 ?_
  refine mm_aload_n (j := 0) dL_law_191 rfl rfl ?_
  refine mm_iload (j := 4) dL_law_192 rfl ?_
  refine mm_iconst (v := 2) dL_law_194 (by decide) ?_
  refine mm_iadd dL_law_195 ?_
  refine lw_sld (lw_in hi (by decide)) dL_law_196 ?_
  refine mm_aload_n (j := 0) dL_law_197 rfl rfl ?_
  refine mm_iload (j := 4) dL_law_198 rfl ?_
  refine mm_iconst (v := 3) dL_law_200 (by decide) ?_
  refine mm_iadd dL_law_201 ?_
  refine lw_sld (lw_in hi (by decide)) dL_law_202 ?_
  refine mm_aload_n (j := 0) dL_law_203 rfl rfl ?_
  refine mm_iload (j := 4) dL_law_204 rfl ?_
  refine mm_iconst (v := 4) dL_law_206 (by decide) ?_
  refine mm_iadd dL_law_207 ?_
  refine lw_sld (lw_in hi (by decide)) dL_law_208 ?_
  refine mm_aload_n (j := 0) dL_law_209 rfl rfl ?_
  refine mm_iload (j := 4) dL_law_210 rfl ?_
  refine mm_iconst (v := 5) dL_law_212 (by decide) ?_
  refine mm_iadd dL_law_213 ?_
  refine lw_sld (lw_in hi (by decide)) dL_law_214 ?_
  refine mm_aload_n (j := 3) dL_law_215 rfl rfl ?_
  obtain ⟨Rr, hf8, hso, hs0, hs1⟩ := hst
  refine lw_callH (kL_cell o8 (xs (i + 1).toNatClampNeg) (xs (i + 2).toNatClampNeg) (xs (i + 3).toNatClampNeg) (xs (i + 4).toNatClampNeg) (xs (i + 5).toNatClampNeg) out hf8 h8 hso (by decide)) tw_420 tw_422 tw_0 tw_421 nmL_cell rfl rfl (by simp only [List.map_cons, List.map_nil, mm_rf_cat]; exact Nat.le_of_ble_eq_true rfl) dL_law_216 ⟨Nat.le_of_ble_eq_true rfl, Nat.le_of_ble_eq_true rfl⟩ ⟨by have := hc.1; show ck + 1 ≤ 601024; omega, by have := hc.2; show sk + 6 ≤ 7293034; omega⟩ (fun r hr => ?_) (fun hr z => ?_)
  · obtain ⟨h9, R9, hf9, h9b, hso9, hlo, hN, -⟩ := hs0 r hr
    refine mm_istore (L' := [(5, .int 0), (0, .ref b), (1, .ref o8), (2, .ref o9), (3, .ref out), (4, .int i)]) dL_law_219 (by decide) rfl ?_
    refine mm_aload_n (j := 3) dL_law_221 rfl rfl ?_
    refine mm_aload_n (j := 1) dL_law_222 rfl rfl ?_
    refine mm_iload (j := 5) dL_law_223 rfl ?_
    refine mm_iconst (v := 1) dL_law_225 (by decide) ?_
    refine mm_iadd dL_law_226 ?_
    refine lw_sld (lw_in hi (by decide)) dL_law_227 ?_
    refine mm_aload_n (j := 1) dL_law_228 rfl rfl ?_
    refine mm_iload (j := 5) dL_law_229 rfl ?_
    refine mm_iconst (v := 2) dL_law_231 (by decide) ?_
    refine mm_iadd dL_law_232 ?_
    refine lw_sld (lw_in hi (by decide)) dL_law_233 ?_
    refine mm_aload_n (j := 1) dL_law_234 rfl rfl ?_
    refine mm_iload (j := 5) dL_law_235 rfl ?_
    refine mm_iconst (v := 3) dL_law_237 (by decide) ?_
    refine mm_iadd dL_law_238 ?_
    refine lw_sld (lw_in hi (by decide)) dL_law_239 ?_
    refine mm_aload_n (j := 1) dL_law_240 rfl rfl ?_
    refine mm_iload (j := 5) dL_law_241 rfl ?_
    refine mm_iconst (v := 4) dL_law_243 (by decide) ?_
    refine mm_iadd dL_law_244 ?_
    refine lw_sld (lw_in hi (by decide)) dL_law_245 ?_
    refine mm_aload_n (j := 1) dL_law_246 rfl rfl ?_
    refine mm_iload (j := 5) dL_law_247 rfl ?_
    refine mm_iconst (v := 5) dL_law_249 (by decide) ?_
    refine mm_iadd dL_law_250 ?_
    refine lw_sld (lw_in hi (by decide)) dL_law_251 ?_
    refine mm_callVi cd_ok (kX9_cell o9 (xs (i + 1).toNatClampNeg) (xs (i + 2).toNatClampNeg) (xs (i + 3).toNatClampNeg) (xs (i + 4).toNatClampNeg) (xs (i + 5).toNatClampNeg) hf9) h9 rfl (Or.inl tw_1002) cdX9_cell tw_1003 tw_1004 nmX9_cell rfl rfl (by simp only [List.map_cons, List.map_nil, mm_rf_cat]; exact Nat.le_of_ble_eq_true rfl) dL_law_252 ⟨Nat.le_of_ble_eq_true rfl, Nat.le_of_ble_eq_true rfl⟩ ⟨by have := hc.1; show ck + 1 + 0 ≤ 601024; omega, by have := hc.2; show sk + 6 + 0 ≤ 7293034; omega⟩ ?_
    refine mm_istore (L' := [(6, .int R9.1), (5, .int 0), (0, .ref b), (1, .ref o8), (2, .ref o9), (3, .ref out), (4, .int i)]) dL_law_255 (by decide) rfl ?_
    refine mm_goto (tgt := 896) dL_law_257 (by decide) ?_
    refine mm_sub [2, 3, 4, 5, 6] rfl ?_
    refine mm_widen (ck' := ck + 1) (sk' := sk + 6) (by show ck + 1 + 0 ≤ ck + 1; omega) (by show sk + 6 + 0 ≤ sk + 6; omega) ?_
    exact kk _ hN
  · refine lw_lt (fun hlt => ?_)
    obtain ⟨h9, R9, hf9, h9b, hN, -⟩ := hs1 hr z hlt
    refine mm_istore (L' := [(5, .int 1), (0, .ref b), (1, .ref o8), (2, .ref o9), (3, .ref out), (4, .int i)]) dL_law_219 (by decide) rfl ?_
    refine mm_aload_n (j := 3) dL_law_221 rfl rfl ?_
    refine mm_aload_n (j := 1) dL_law_222 rfl rfl ?_
    refine mm_iload (j := 5) dL_law_223 rfl ?_
    refine mm_iconst (v := 1) dL_law_225 (by decide) ?_
    refine mm_iadd dL_law_226 ?_
    refine lw_sld (lw_in hi (by decide)) dL_law_227 ?_
    refine mm_aload_n (j := 1) dL_law_228 rfl rfl ?_
    refine mm_iload (j := 5) dL_law_229 rfl ?_
    refine mm_iconst (v := 2) dL_law_231 (by decide) ?_
    refine mm_iadd dL_law_232 ?_
    refine lw_sld (lw_in hi (by decide)) dL_law_233 ?_
    refine mm_aload_n (j := 1) dL_law_234 rfl rfl ?_
    refine mm_iload (j := 5) dL_law_235 rfl ?_
    refine mm_iconst (v := 3) dL_law_237 (by decide) ?_
    refine mm_iadd dL_law_238 ?_
    refine lw_sld (lw_in hi (by decide)) dL_law_239 ?_
    refine mm_aload_n (j := 1) dL_law_240 rfl rfl ?_
    refine mm_iload (j := 5) dL_law_241 rfl ?_
    refine mm_iconst (v := 4) dL_law_243 (by decide) ?_
    refine mm_iadd dL_law_244 ?_
    refine lw_sld (lw_in hi (by decide)) dL_law_245 ?_
    refine mm_aload_n (j := 1) dL_law_246 rfl rfl ?_
    refine mm_iload (j := 5) dL_law_247 rfl ?_
    refine mm_iconst (v := 5) dL_law_249 (by decide) ?_
    refine mm_iadd dL_law_250 ?_
    refine lw_sld (lw_in hi (by decide)) dL_law_251 ?_
    refine mm_callVi cd_ok (kX9_cell o9 (xs (i + 1).toNatClampNeg) (xs (i + 2).toNatClampNeg) (xs (i + 3).toNatClampNeg) (xs (i + 4).toNatClampNeg) (xs (i + 5).toNatClampNeg) hf9) h9 rfl (Or.inl tw_1002) cdX9_cell tw_1003 tw_1004 nmX9_cell rfl rfl (by simp only [List.map_cons, List.map_nil, mm_rf_cat]; exact Nat.le_of_ble_eq_true rfl) dL_law_252 ⟨Nat.le_of_ble_eq_true rfl, Nat.le_of_ble_eq_true rfl⟩ ⟨by have := hc.1; show ck + 1 + 0 ≤ 601024; omega, by have := hc.2; show sk + 6 + 0 ≤ 7293034; omega⟩ ?_
    refine mm_istore (L' := [(6, .int R9.1), (5, .int 1), (0, .ref b), (1, .ref o8), (2, .ref o9), (3, .ref out), (4, .int i)]) dL_law_255 (by decide) rfl ?_
    refine mm_goto (tgt := 896) dL_law_257 (by decide) ?_
    refine mm_sub [2, 3, 4, 5, 6] rfl ?_
    refine mm_widen (ck' := ck + 1) (sk' := sk + 6) (by show ck + 1 + 0 ≤ ck + 1; omega) (by show sk + 6 + 0 ≤ sk + 6; omega) ?_
    exact kk _ hN
set_option maxHeartbeats 4000000 in
set_option maxRecDepth 100000 in
theorem bL_state {G : mm_G} {A : Nat → Prop} {b L o8 o9 out : Nat} {xs : Nat → Int32} {i : Int32} {σ : mm_M} {ck sk : Nat} {N : mm_M → Prop} {X : Option Int32 × mm_M → Int32 × mm_M → Prop} (hi : 0 ≤ i.toInt ∧ i.toInt + 6 ≤ L ∧ L ≤ 4000) (hc : ck + 1 ≤ 601024 ∧ sk + 6 ≤ 7293034) (h8 : σ.2.1 o8 = some (.inl 8)) (hst : lw_stepG (fun τ => fX8_state o8 (xs (i + 1).toNatClampNeg) (xs (i + 2).toNatClampNeg) τ) (fun τ => fX9_state o9 (xs (i + 1).toNatClampNeg) (xs (i + 2).toNatClampNeg) τ) o9 out σ N X) (kk : ∀ σ', N σ' → JL G A b L xs 896 [(0, .ref b), (1, .ref o8), (2, .ref o9), (3, .ref out), (4, .int i)] [] σ' (ck + 1) (sk + 6)) : JL G A b L xs 260 [(0, .ref b), (1, .ref o8), (2, .ref o9), (3, .ref out), (4, .int i)] [] σ ck sk := by
  refine mm_aload_n (j := 1) dL_law_260 rfl rfl ?_
  refine mm_aload_n (j := 0) dL_law_261 rfl rfl ?_
  refine mm_iload (j := 4) dL_law_262 rfl ?_
  refine mm_iconst (v := 1) dL_law_264 (by decide) ?_
  refine mm_iadd dL_law_265 ?_
  refine lw_sld (lw_in hi (by decide)) dL_law_266 ?_
  refine mm_aload_n (j := 0) dL_law_267 rfl rfl ?_
  refine mm_iload (j := 4) dL_law_268 rfl ?_
  refine mm_iconst (v := 2) dL_law_270 (by decide) ?_
  refine mm_iadd dL_law_271 ?_
  refine lw_sld (lw_in hi (by decide)) dL_law_272 ?_
  refine mm_aload_n (j := 3) dL_law_273 rfl rfl ?_
  obtain ⟨Rr, hf8, hso, hs0, hs1⟩ := hst
  refine lw_callH (kL_state o8 (xs (i + 1).toNatClampNeg) (xs (i + 2).toNatClampNeg) out hf8 h8 hso (by decide)) tw_437 tw_439 tw_0 tw_438 nmL_state rfl rfl (by simp only [List.map_cons, List.map_nil, mm_rf_cat]; exact Nat.le_of_ble_eq_true rfl) dL_law_274 ⟨Nat.le_of_ble_eq_true rfl, Nat.le_of_ble_eq_true rfl⟩ ⟨by have := hc.1; show ck + 1 ≤ 601024; omega, by have := hc.2; show sk + 6 ≤ 7293034; omega⟩ (fun r hr => ?_) (fun hr z => ?_)
  · obtain ⟨h9, R9, hf9, h9b, hso9, hlo, hN, -⟩ := hs0 r hr
    refine mm_istore (L' := [(5, .int 0), (0, .ref b), (1, .ref o8), (2, .ref o9), (3, .ref out), (4, .int i)]) dL_law_277 (by decide) rfl ?_
    refine mm_aload_n (j := 3) dL_law_279 rfl rfl ?_
    refine mm_aload_n (j := 1) dL_law_280 rfl rfl ?_
    refine mm_iload (j := 5) dL_law_281 rfl ?_
    refine mm_iconst (v := 1) dL_law_283 (by decide) ?_
    refine mm_iadd dL_law_284 ?_
    refine lw_sld (lw_in hi (by decide)) dL_law_285 ?_
    refine mm_aload_n (j := 1) dL_law_286 rfl rfl ?_
    refine mm_iload (j := 5) dL_law_287 rfl ?_
    refine mm_iconst (v := 2) dL_law_289 (by decide) ?_
    refine mm_iadd dL_law_290 ?_
    refine lw_sld (lw_in hi (by decide)) dL_law_291 ?_
    refine mm_callVi cd_ok (kX9_state o9 (xs (i + 1).toNatClampNeg) (xs (i + 2).toNatClampNeg) hf9) h9 rfl (Or.inl tw_1006) cdX9_state tw_1007 tw_1008 nmX9_state rfl rfl (by simp only [List.map_cons, List.map_nil, mm_rf_cat]; exact Nat.le_of_ble_eq_true rfl) dL_law_292 ⟨Nat.le_of_ble_eq_true rfl, Nat.le_of_ble_eq_true rfl⟩ ⟨by have := hc.1; show ck + 1 + 0 ≤ 601024; omega, by have := hc.2; show sk + 6 + 0 ≤ 7293034; omega⟩ ?_
    refine mm_istore (L' := [(6, .int R9.1), (5, .int 0), (0, .ref b), (1, .ref o8), (2, .ref o9), (3, .ref out), (4, .int i)]) dL_law_295 (by decide) rfl ?_
    refine mm_goto (tgt := 896) dL_law_297 (by decide) ?_
    refine mm_sub [2, 3, 4, 5, 6] rfl ?_
    refine mm_widen (ck' := ck + 1) (sk' := sk + 6) (by show ck + 1 + 0 ≤ ck + 1; omega) (by show sk + 6 + 0 ≤ sk + 6; omega) ?_
    exact kk _ hN
  · refine lw_lt (fun hlt => ?_)
    obtain ⟨h9, R9, hf9, h9b, hN, -⟩ := hs1 hr z hlt
    refine mm_istore (L' := [(5, .int 1), (0, .ref b), (1, .ref o8), (2, .ref o9), (3, .ref out), (4, .int i)]) dL_law_277 (by decide) rfl ?_
    refine mm_aload_n (j := 3) dL_law_279 rfl rfl ?_
    refine mm_aload_n (j := 1) dL_law_280 rfl rfl ?_
    refine mm_iload (j := 5) dL_law_281 rfl ?_
    refine mm_iconst (v := 1) dL_law_283 (by decide) ?_
    refine mm_iadd dL_law_284 ?_
    refine lw_sld (lw_in hi (by decide)) dL_law_285 ?_
    refine mm_aload_n (j := 1) dL_law_286 rfl rfl ?_
    refine mm_iload (j := 5) dL_law_287 rfl ?_
    refine mm_iconst (v := 2) dL_law_289 (by decide) ?_
    refine mm_iadd dL_law_290 ?_
    refine lw_sld (lw_in hi (by decide)) dL_law_291 ?_
    refine mm_callVi cd_ok (kX9_state o9 (xs (i + 1).toNatClampNeg) (xs (i + 2).toNatClampNeg) hf9) h9 rfl (Or.inl tw_1006) cdX9_state tw_1007 tw_1008 nmX9_state rfl rfl (by simp only [List.map_cons, List.map_nil, mm_rf_cat]; exact Nat.le_of_ble_eq_true rfl) dL_law_292 ⟨Nat.le_of_ble_eq_true rfl, Nat.le_of_ble_eq_true rfl⟩ ⟨by have := hc.1; show ck + 1 + 0 ≤ 601024; omega, by have := hc.2; show sk + 6 + 0 ≤ 7293034; omega⟩ ?_
    refine mm_istore (L' := [(6, .int R9.1), (5, .int 1), (0, .ref b), (1, .ref o8), (2, .ref o9), (3, .ref out), (4, .int i)]) dL_law_295 (by decide) rfl ?_
    refine mm_goto (tgt := 896) dL_law_297 (by decide) ?_
    refine mm_sub [2, 3, 4, 5, 6] rfl ?_
    refine mm_widen (ck' := ck + 1) (sk' := sk + 6) (by show ck + 1 + 0 ≤ ck + 1; omega) (by show sk + 6 + 0 ≤ sk + 6; omega) ?_
    exact kk _ hN
set_option maxHeartbeats 4000000 in
set_option maxRecDepth 100000 in
theorem bL_channel {G : mm_G} {A : Nat → Prop} {b L o8 o9 out : Nat} {xs : Nat → Int32} {i : Int32} {σ : mm_M} {ck sk : Nat} {N : mm_M → Prop} {X : Option Int32 × mm_M → Int32 × mm_M → Prop} (hi : 0 ≤ i.toInt ∧ i.toInt + 6 ≤ L ∧ L ≤ 4000) (hc : ck + 1 ≤ 601024 ∧ sk + 6 ≤ 7293034) (h8 : σ.2.1 o8 = some (.inl 8)) (hst : lw_stepG (fun τ => fX8_channel o8 (xs (i + 1).toNatClampNeg) τ) (fun τ => fX9_channel o9 (xs (i + 1).toNatClampNeg) τ) o9 out σ N X) (kk : ∀ σ', N σ' → JL G A b L xs 896 [(0, .ref b), (1, .ref o8), (2, .ref o9), (3, .ref out), (4, .int i)] [] σ' (ck + 1) (sk + 6)) : JL G A b L xs 300 [(0, .ref b), (1, .ref o8), (2, .ref o9), (3, .ref out), (4, .int i)] [] σ ck sk := by
  refine mm_aload_n (j := 1) dL_law_300 rfl rfl ?_
  refine mm_aload_n (j := 0) dL_law_301 rfl rfl ?_
  refine mm_iload (j := 4) dL_law_302 rfl ?_
  refine mm_iconst (v := 1) dL_law_304 (by decide) ?_
  refine mm_iadd dL_law_305 ?_
  refine lw_sld (lw_in hi (by decide)) dL_law_306 ?_
  refine mm_aload_n (j := 3) dL_law_307 rfl rfl ?_
  obtain ⟨Rr, hf8, hso, hs0, hs1⟩ := hst
  refine lw_callH (kL_channel o8 (xs (i + 1).toNatClampNeg) out hf8 h8 hso (by decide)) tw_445 tw_447 tw_0 tw_446 nmL_channel rfl rfl (by simp only [List.map_cons, List.map_nil, mm_rf_cat]; exact Nat.le_of_ble_eq_true rfl) dL_law_308 ⟨Nat.le_of_ble_eq_true rfl, Nat.le_of_ble_eq_true rfl⟩ ⟨by have := hc.1; show ck + 1 ≤ 601024; omega, by have := hc.2; show sk + 6 ≤ 7293034; omega⟩ (fun r hr => ?_) (fun hr z => ?_)
  · obtain ⟨h9, R9, hf9, h9b, hso9, hlo, hN, -⟩ := hs0 r hr
    refine mm_istore (L' := [(5, .int 0), (0, .ref b), (1, .ref o8), (2, .ref o9), (3, .ref out), (4, .int i)]) dL_law_311 (by decide) rfl ?_
    refine mm_aload_n (j := 3) dL_law_313 rfl rfl ?_
    refine mm_aload_n (j := 1) dL_law_314 rfl rfl ?_
    refine mm_iload (j := 5) dL_law_315 rfl ?_
    refine mm_iconst (v := 1) dL_law_317 (by decide) ?_
    refine mm_iadd dL_law_318 ?_
    refine lw_sld (lw_in hi (by decide)) dL_law_319 ?_
    refine mm_callVi cd_ok (kX9_channel o9 (xs (i + 1).toNatClampNeg) hf9) h9 rfl (Or.inl tw_1010) cdX9_channel tw_1011 tw_1012 nmX9_channel rfl rfl (by simp only [List.map_cons, List.map_nil, mm_rf_cat]; exact Nat.le_of_ble_eq_true rfl) dL_law_320 ⟨Nat.le_of_ble_eq_true rfl, Nat.le_of_ble_eq_true rfl⟩ ⟨by have := hc.1; show ck + 1 + 0 ≤ 601024; omega, by have := hc.2; show sk + 6 + 0 ≤ 7293034; omega⟩ ?_
    refine mm_istore (L' := [(6, .int R9.1), (5, .int 0), (0, .ref b), (1, .ref o8), (2, .ref o9), (3, .ref out), (4, .int i)]) dL_law_323 (by decide) rfl ?_
    refine mm_goto (tgt := 896) dL_law_325 (by decide) ?_
    refine mm_sub [2, 3, 4, 5, 6] rfl ?_
    refine mm_widen (ck' := ck + 1) (sk' := sk + 6) (by show ck + 1 + 0 ≤ ck + 1; omega) (by show sk + 6 + 0 ≤ sk + 6; omega) ?_
    exact kk _ hN
  · refine lw_lt (fun hlt => ?_)
    obtain ⟨h9, R9, hf9, h9b, hN, -⟩ := hs1 hr z hlt
    refine mm_istore (L' := [(5, .int 1), (0, .ref b), (1, .ref o8), (2, .ref o9), (3, .ref out), (4, .int i)]) dL_law_311 (by decide) rfl ?_
    refine mm_aload_n (j := 3) dL_law_313 rfl rfl ?_
    refine mm_aload_n (j := 1) dL_law_314 rfl rfl ?_
    refine mm_iload (j := 5) dL_law_315 rfl ?_
    refine mm_iconst (v := 1) dL_law_317 (by decide) ?_
    refine mm_iadd dL_law_318 ?_
    refine lw_sld (lw_in hi (by decide)) dL_law_319 ?_
    refine mm_callVi cd_ok (kX9_channel o9 (xs (i + 1).toNatClampNeg) hf9) h9 rfl (Or.inl tw_1010) cdX9_channel tw_1011 tw_1012 nmX9_channel rfl rfl (by simp only [List.map_cons, List.map_nil, mm_rf_cat]; exact Nat.le_of_ble_eq_true rfl) dL_law_320 ⟨Nat.le_of_ble_eq_true rfl, Nat.le_of_ble_eq_true rfl⟩ ⟨by have := hc.1; show ck + 1 + 0 ≤ 601024; omega, by have := hc.2; show sk + 6 + 0 ≤ 7293034; omega⟩ ?_
    refine mm_istore (L' := [(6, .int R9.1), (5, .int 1), (0, .ref b), (1, .ref o8), (2, .ref o9), (3, .ref out), (4, .int i)]) dL_law_323 (by decide) rfl ?_
    refine mm_goto (tgt := 896) dL_law_325 (by decide) ?_
    refine mm_sub [2, 3, 4, 5, 6] rfl ?_
    refine mm_widen (ck' := ck + 1) (sk' := sk + 6) (by show ck + 1 + 0 ≤ ck + 1; omega) (by show sk + 6 + 0 ≤ sk + 6; omega) ?_
    exact kk _ hN
set_option maxHeartbeats 4000000 in
set_option maxRecDepth 100000 in
theorem bL_guarded {G : mm_G} {A : Nat → Prop} {b L o8 o9 out : Nat} {xs : Nat → Int32} {i : Int32} {σ : mm_M} {ck sk : Nat} {N : mm_M → Prop} {X : Int32 × mm_M → Int32 × mm_M → Prop} (hi : 0 ≤ i.toInt ∧ i.toInt + 6 ≤ L ∧ L ≤ 4000) (hc : ck + 0 ≤ 601024 ∧ sk + 0 ≤ 7293034) (h8 : σ.2.1 o8 = some (.inl 8)) (hst : lw_stepH (fun τ => fX8_guarded o8 (xs (i + 1).toNatClampNeg) τ) (fun τ => fX9_guarded o9 (xs (i + 1).toNatClampNeg) τ) o9 σ N X) (kk : ∀ σ', N σ' → JL G A b L xs 896 [(0, .ref b), (1, .ref o8), (2, .ref o9), (3, .ref out), (4, .int i)] [] σ' (ck + 0) (sk + 0)) : JL G A b L xs 328 [(0, .ref b), (1, .ref o8), (2, .ref o9), (3, .ref out), (4, .int i)] [] σ ck sk := by
  refine mm_aload_n (j := 1) dL_law_328 rfl rfl ?_
  refine mm_aload_n (j := 0) dL_law_329 rfl rfl ?_
  refine mm_iload (j := 4) dL_law_330 rfl ?_
  refine mm_iconst (v := 1) dL_law_332 (by decide) ?_
  refine mm_iadd dL_law_333 ?_
  refine lw_sld (lw_in hi (by decide)) dL_law_334 ?_
  obtain ⟨R8, hf8, h9, R9, hf9, hN, -⟩ := hst
  refine mm_callVi cd_ok (kX8_guarded o8 (xs (i + 1).toNatClampNeg) hf8) h8 rfl (Or.inl tw_183) cdX8_guarded tw_184 tw_185 nmX8_guarded rfl rfl (by simp only [List.map_cons, List.map_nil, mm_rf_cat]; exact Nat.le_of_ble_eq_true rfl) dL_law_335 ⟨Nat.le_of_ble_eq_true rfl, Nat.le_of_ble_eq_true rfl⟩ ⟨by have := hc.1; show ck + 0 ≤ 601024; omega, by have := hc.2; show sk + 0 ≤ 7293034; omega⟩ ?_
  refine mm_pop dL_law_338 rfl ?_
  refine mm_aload_n (j := 2) dL_law_339 rfl rfl ?_
  refine mm_aload_n (j := 0) dL_law_340 rfl rfl ?_
  refine mm_iload (j := 4) dL_law_341 rfl ?_
  refine mm_iconst (v := 1) dL_law_343 (by decide) ?_
  refine mm_iadd dL_law_344 ?_
  refine lw_sld (lw_in hi (by decide)) dL_law_345 ?_
  refine mm_callVi cd_ok (kX9_guarded o9 (xs (i + 1).toNatClampNeg) hf9) h9 rfl (Or.inl tw_1014) cdX9_guarded tw_1015 tw_1016 nmX9_guarded rfl rfl (by simp only [List.map_cons, List.map_nil, mm_rf_cat]; exact Nat.le_of_ble_eq_true rfl) dL_law_346 ⟨Nat.le_of_ble_eq_true rfl, Nat.le_of_ble_eq_true rfl⟩ ⟨by have := hc.1; show ck + 0 + 0 ≤ 601024; omega, by have := hc.2; show sk + 0 + 0 ≤ 7293034; omega⟩ ?_
  refine mm_pop dL_law_349 rfl ?_
  refine mm_goto (tgt := 896) dL_law_350 (by decide) ?_
  refine mm_sub [0, 1, 2, 3, 4] rfl ?_
  refine mm_widen (ck' := ck + 0) (sk' := sk + 0) (by show ck + 0 + 0 ≤ ck + 0; omega) (by show sk + 0 + 0 ≤ sk + 0; omega) ?_
  exact kk _ hN
set_option maxHeartbeats 4000000 in
set_option maxRecDepth 100000 in
theorem bL_feed {G : mm_G} {A : Nat → Prop} {b L o8 o9 out : Nat} {xs : Nat → Int32} {i : Int32} {σ : mm_M} {ck sk : Nat} {N : mm_M → Prop} {X : Option Int32 × mm_M → Int32 × mm_M → Prop} (hi : 0 ≤ i.toInt ∧ i.toInt + 6 ≤ L ∧ L ≤ 4000) (hc : ck + 1 ≤ 601024 ∧ sk + 6 ≤ 7293034) (h8 : σ.2.1 o8 = some (.inl 8)) (hst : lw_stepG (fun τ => fX8_feed o8 (xs (i + 1).toNatClampNeg) (xs (i + 2).toNatClampNeg) (xs (i + 3).toNatClampNeg) (xs (i + 4).toNatClampNeg) (xs (i + 5).toNatClampNeg) τ) (fun τ => fX9_feed o9 (xs (i + 1).toNatClampNeg) (xs (i + 2).toNatClampNeg) (xs (i + 3).toNatClampNeg) (xs (i + 4).toNatClampNeg) (xs (i + 5).toNatClampNeg) τ) o9 out σ N X) (kk : ∀ σ', N σ' → JL G A b L xs 896 [(0, .ref b), (1, .ref o8), (2, .ref o9), (3, .ref out), (4, .int i)] [] σ' (ck + 1) (sk + 6)) : JL G A b L xs 353 [(0, .ref b), (1, .ref o8), (2, .ref o9), (3, .ref out), (4, .int i)] [] σ ck sk := by
  refine mm_aload_n (j := 1) dL_law_353 rfl rfl ?_
  refine mm_aload_n (j := 0) dL_law_354 rfl rfl ?_
  refine mm_iload (j := 4) dL_law_355 rfl ?_
  refine mm_iconst (v := 1) dL_law_357 (by decide) ?_
  refine mm_iadd dL_law_358 ?_
  refine lw_sld (lw_in hi (by decide)) dL_law_359 ?_
  refine mm_aload_n (j := 0) dL_law_360 rfl rfl ?_
  refine mm_iload (j := 4) dL_law_361 rfl ?_
  refine mm_iconst (v := 2) dL_law_363 (by decide) ?_
  refine mm_iadd dL_law_364 ?_
  refine lw_sld (lw_in hi (by decide)) dL_law_365 ?_
  refine mm_aload_n (j := 0) dL_law_366 rfl rfl ?_
  refine mm_iload (j := 4) dL_law_367 rfl ?_
  refine mm_iconst (v := 3) dL_law_369 (by decide) ?_
  refine mm_iadd dL_law_370 ?_
  refine lw_sld (lw_in hi (by decide)) dL_law_371 ?_
  refine mm_aload_n (j := 0) dL_law_372 rfl rfl ?_
  refine mm_iload (j := 4) dL_law_373 rfl ?_
  refine mm_iconst (v := 4) dL_law_375 (by decide) ?_
  refine mm_iadd dL_law_376 ?_
  refine lw_sld (lw_in hi (by decide)) dL_law_377 ?_
  refine mm_aload_n (j := 0) dL_law_378 rfl rfl ?_
  refine mm_iload (j := 4) dL_law_379 rfl ?_
  refine mm_iconst (v := 5) dL_law_381 (by decide) ?_
  refine mm_iadd dL_law_382 ?_
  refine lw_sld (lw_in hi (by decide)) dL_law_383 ?_
  refine mm_aload_n (j := 3) dL_law_384 rfl rfl ?_
  obtain ⟨Rr, hf8, hso, hs0, hs1⟩ := hst
  refine lw_callH (kL_feed o8 (xs (i + 1).toNatClampNeg) (xs (i + 2).toNatClampNeg) (xs (i + 3).toNatClampNeg) (xs (i + 4).toNatClampNeg) (xs (i + 5).toNatClampNeg) out hf8 h8 hso (by decide)) tw_452 tw_454 tw_0 tw_453 nmL_feed rfl rfl (by simp only [List.map_cons, List.map_nil, mm_rf_cat]; exact Nat.le_of_ble_eq_true rfl) dL_law_385 ⟨Nat.le_of_ble_eq_true rfl, Nat.le_of_ble_eq_true rfl⟩ ⟨by have := hc.1; show ck + 1 ≤ 601024; omega, by have := hc.2; show sk + 6 ≤ 7293034; omega⟩ (fun r hr => ?_) (fun hr z => ?_)
  · obtain ⟨h9, R9, hf9, h9b, hso9, hlo, hN, -⟩ := hs0 r hr
    refine mm_istore (L' := [(5, .int 0), (0, .ref b), (1, .ref o8), (2, .ref o9), (3, .ref out), (4, .int i)]) dL_law_388 (by decide) rfl ?_
    refine mm_aload_n (j := 3) dL_law_390 rfl rfl ?_
    refine mm_aload_n (j := 1) dL_law_391 rfl rfl ?_
    refine mm_iload (j := 5) dL_law_392 rfl ?_
    refine mm_iconst (v := 1) dL_law_394 (by decide) ?_
    refine mm_iadd dL_law_395 ?_
    refine lw_sld (lw_in hi (by decide)) dL_law_396 ?_
    refine mm_aload_n (j := 1) dL_law_397 rfl rfl ?_
    refine mm_iload (j := 5) dL_law_398 rfl ?_
    refine mm_iconst (v := 2) dL_law_400 (by decide) ?_
    refine mm_iadd dL_law_401 ?_
    refine lw_sld (lw_in hi (by decide)) dL_law_402 ?_
    refine mm_aload_n (j := 1) dL_law_403 rfl rfl ?_
    refine mm_iload (j := 5) dL_law_404 rfl ?_
    refine mm_iconst (v := 3) dL_law_406 (by decide) ?_
    refine mm_iadd dL_law_407 ?_
    refine lw_sld (lw_in hi (by decide)) dL_law_408 ?_
    refine mm_aload_n (j := 1) dL_law_409 rfl rfl ?_
    refine mm_iload (j := 5) dL_law_410 rfl ?_
    refine mm_iconst (v := 4) dL_law_412 (by decide) ?_
    refine mm_iadd dL_law_413 ?_
    refine lw_sld (lw_in hi (by decide)) dL_law_414 ?_
    refine mm_aload_n (j := 1) dL_law_415 rfl rfl ?_
    refine mm_iload (j := 5) dL_law_416 rfl ?_
    refine mm_iconst (v := 5) dL_law_418 (by decide) ?_
    refine mm_iadd dL_law_419 ?_
    refine lw_sld (lw_in hi (by decide)) dL_law_420 ?_
    refine mm_callVi cd_ok (kX9_feed o9 (xs (i + 1).toNatClampNeg) (xs (i + 2).toNatClampNeg) (xs (i + 3).toNatClampNeg) (xs (i + 4).toNatClampNeg) (xs (i + 5).toNatClampNeg) hf9) h9 rfl (Or.inl tw_1027) cdX9_feed tw_1028 tw_1029 nmX9_feed rfl rfl (by simp only [List.map_cons, List.map_nil, mm_rf_cat]; exact Nat.le_of_ble_eq_true rfl) dL_law_421 ⟨Nat.le_of_ble_eq_true rfl, Nat.le_of_ble_eq_true rfl⟩ ⟨by have := hc.1; show ck + 1 + 0 ≤ 601024; omega, by have := hc.2; show sk + 6 + 0 ≤ 7293034; omega⟩ ?_
    refine mm_istore (L' := [(6, .int R9.1), (5, .int 0), (0, .ref b), (1, .ref o8), (2, .ref o9), (3, .ref out), (4, .int i)]) dL_law_424 (by decide) rfl ?_
    refine mm_goto (tgt := 896) dL_law_426 (by decide) ?_
    refine mm_sub [2, 3, 4, 5, 6] rfl ?_
    refine mm_widen (ck' := ck + 1) (sk' := sk + 6) (by show ck + 1 + 0 ≤ ck + 1; omega) (by show sk + 6 + 0 ≤ sk + 6; omega) ?_
    exact kk _ hN
  · refine lw_lt (fun hlt => ?_)
    obtain ⟨h9, R9, hf9, h9b, hN, -⟩ := hs1 hr z hlt
    refine mm_istore (L' := [(5, .int 1), (0, .ref b), (1, .ref o8), (2, .ref o9), (3, .ref out), (4, .int i)]) dL_law_388 (by decide) rfl ?_
    refine mm_aload_n (j := 3) dL_law_390 rfl rfl ?_
    refine mm_aload_n (j := 1) dL_law_391 rfl rfl ?_
    refine mm_iload (j := 5) dL_law_392 rfl ?_
    refine mm_iconst (v := 1) dL_law_394 (by decide) ?_
    refine mm_iadd dL_law_395 ?_
    refine lw_sld (lw_in hi (by decide)) dL_law_396 ?_
    refine mm_aload_n (j := 1) dL_law_397 rfl rfl ?_
    refine mm_iload (j := 5) dL_law_398 rfl ?_
    refine mm_iconst (v := 2) dL_law_400 (by decide) ?_
    refine mm_iadd dL_law_401 ?_
    refine lw_sld (lw_in hi (by decide)) dL_law_402 ?_
    refine mm_aload_n (j := 1) dL_law_403 rfl rfl ?_
    refine mm_iload (j := 5) dL_law_404 rfl ?_
    refine mm_iconst (v := 3) dL_law_406 (by decide) ?_
    refine mm_iadd dL_law_407 ?_
    refine lw_sld (lw_in hi (by decide)) dL_law_408 ?_
    refine mm_aload_n (j := 1) dL_law_409 rfl rfl ?_
    refine mm_iload (j := 5) dL_law_410 rfl ?_
    refine mm_iconst (v := 4) dL_law_412 (by decide) ?_
    refine mm_iadd dL_law_413 ?_
    refine lw_sld (lw_in hi (by decide)) dL_law_414 ?_
    refine mm_aload_n (j := 1) dL_law_415 rfl rfl ?_
    refine mm_iload (j := 5) dL_law_416 rfl ?_
    refine mm_iconst (v := 5) dL_law_418 (by decide) ?_
    refine mm_iadd dL_law_419 ?_
    refine lw_sld (lw_in hi (by decide)) dL_law_420 ?_
    refine mm_callVi cd_ok (kX9_feed o9 (xs (i + 1).toNatClampNeg) (xs (i + 2).toNatClampNeg) (xs (i + 3).toNatClampNeg) (xs (i + 4).toNatClampNeg) (xs (i + 5).toNatClampNeg) hf9) h9 rfl (Or.inl tw_1027) cdX9_feed tw_1028 tw_1029 nmX9_feed rfl rfl (by simp only [List.map_cons, List.map_nil, mm_rf_cat]; exact Nat.le_of_ble_eq_true rfl) dL_law_421 ⟨Nat.le_of_ble_eq_true rfl, Nat.le_of_ble_eq_true rfl⟩ ⟨by have := hc.1; show ck + 1 + 0 ≤ 601024; omega, by have := hc.2; show sk + 6 + 0 ≤ 7293034; omega⟩ ?_
    refine mm_istore (L' := [(6, .int R9.1), (5, .int 1), (0, .ref b), (1, .ref o8), (2, .ref o9), (3, .ref out), (4, .int i)]) dL_law_424 (by decide) rfl ?_
    refine mm_goto (tgt := 896) dL_law_426 (by decide) ?_
    refine mm_sub [2, 3, 4, 5, 6] rfl ?_
    refine mm_widen (ck' := ck + 1) (sk' := sk + 6) (by show ck + 1 + 0 ≤ ck + 1; omega) (by show sk + 6 + 0 ≤ sk + 6; omega) ?_
    exact kk _ hN
set_option maxHeartbeats 4000000 in
set_option maxRecDepth 100000 in
theorem bL_packet {G : mm_G} {A : Nat → Prop} {b L o8 o9 out : Nat} {xs : Nat → Int32} {i : Int32} {σ : mm_M} {ck sk : Nat} {N : mm_M → Prop} {X : Option Int32 × mm_M → Int32 × mm_M → Prop} (hi : 0 ≤ i.toInt ∧ i.toInt + 6 ≤ L ∧ L ≤ 4000) (hc : ck + 5 ≤ 601024 ∧ sk + 1054 ≤ 7293034) (h8 : σ.2.1 o8 = some (.inl 8)) (hst : lw_stepG (fun τ => fX8_packet o8  τ) (fun τ => fX9_packet o9  τ) o9 out σ N X) (kk : ∀ σ', N σ' → JL G A b L xs 896 [(0, .ref b), (1, .ref o8), (2, .ref o9), (3, .ref out), (4, .int i)] [] σ' (ck + 5) (sk + 1054)) : JL G A b L xs 429 [(0, .ref b), (1, .ref o8), (2, .ref o9), (3, .ref out), (4, .int i)] [] σ ck sk := by
  refine mm_aload_n (j := 1) dL_law_429 rfl rfl ?_
  refine mm_aload_n (j := 3) dL_law_430 rfl rfl ?_
  obtain ⟨Rr, hf8, hso, hs0, hs1⟩ := hst
  refine lw_callH (kL_packet o8 out hf8 h8 hso (by decide)) tw_480 tw_482 tw_0 tw_481 nmL_packet rfl rfl (by simp only [List.map_cons, List.map_nil, mm_rf_cat]; exact Nat.le_of_ble_eq_true rfl) dL_law_431 ⟨Nat.le_of_ble_eq_true rfl, Nat.le_of_ble_eq_true rfl⟩ ⟨by have := hc.1; show ck + 5 ≤ 601024; omega, by have := hc.2; show sk + 1054 ≤ 7293034; omega⟩ (fun r hr => ?_) (fun hr z => ?_)
  · obtain ⟨h9, R9, hf9, h9b, hso9, hlo, hN, -⟩ := hs0 r hr
    refine mm_istore (L' := [(5, .int 0), (0, .ref b), (1, .ref o8), (2, .ref o9), (3, .ref out), (4, .int i)]) dL_law_434 (by decide) rfl ?_
    refine mm_aload_n (j := 3) dL_law_436 rfl rfl ?_
    refine mm_callVi cd_ok (kX9_packet o9 hf9) h9 rfl (Or.inl tw_1031) cdX9_packet tw_1032 tw_1033 nmX9_packet rfl rfl (by simp only [List.map_cons, List.map_nil, mm_rf_cat]; exact Nat.le_of_ble_eq_true rfl) dL_law_437 ⟨Nat.le_of_ble_eq_true rfl, Nat.le_of_ble_eq_true rfl⟩ ⟨by have := hc.1; show ck + 5 + 0 ≤ 601024; omega, by have := hc.2; show sk + 1054 + 0 ≤ 7293034; omega⟩ ?_
    refine mm_istore (L' := [(6, .int R9.1), (5, .int 0), (0, .ref b), (1, .ref o8), (2, .ref o9), (3, .ref out), (4, .int i)]) dL_law_440 (by decide) rfl ?_
    refine mm_goto (tgt := 896) dL_law_442 (by decide) ?_
    refine mm_sub [2, 3, 4, 5, 6] rfl ?_
    refine mm_widen (ck' := ck + 5) (sk' := sk + 1054) (by show ck + 5 + 0 ≤ ck + 5; omega) (by show sk + 1054 + 0 ≤ sk + 1054; omega) ?_
    exact kk _ hN
  · refine lw_lt (fun hlt => ?_)
    obtain ⟨h9, R9, hf9, h9b, hN, -⟩ := hs1 hr z hlt
    refine mm_istore (L' := [(5, .int 1), (0, .ref b), (1, .ref o8), (2, .ref o9), (3, .ref out), (4, .int i)]) dL_law_434 (by decide) rfl ?_
    refine mm_aload_n (j := 3) dL_law_436 rfl rfl ?_
    refine mm_callVi cd_ok (kX9_packet o9 hf9) h9 rfl (Or.inl tw_1031) cdX9_packet tw_1032 tw_1033 nmX9_packet rfl rfl (by simp only [List.map_cons, List.map_nil, mm_rf_cat]; exact Nat.le_of_ble_eq_true rfl) dL_law_437 ⟨Nat.le_of_ble_eq_true rfl, Nat.le_of_ble_eq_true rfl⟩ ⟨by have := hc.1; show ck + 5 + 0 ≤ 601024; omega, by have := hc.2; show sk + 1054 + 0 ≤ 7293034; omega⟩ ?_
    refine mm_istore (L' := [(6, .int R9.1), (5, .int 1), (0, .ref b), (1, .ref o8), (2, .ref o9), (3, .ref out), (4, .int i)]) dL_law_440 (by decide) rfl ?_
    refine mm_goto (tgt := 896) dL_law_442 (by decide) ?_
    refine mm_sub [2, 3, 4, 5, 6] rfl ?_
    refine mm_widen (ck' := ck + 5) (sk' := sk + 1054) (by show ck + 5 + 0 ≤ ck + 5; omega) (by show sk + 1054 + 0 ≤ sk + 1054; omega) ?_
    exact kk _ hN
set_option maxHeartbeats 4000000 in
set_option maxRecDepth 100000 in
theorem bL_nothing {G : mm_G} {A : Nat → Prop} {b L o8 o9 out : Nat} {xs : Nat → Int32} {i : Int32} {σ : mm_M} {ck sk : Nat} {N : mm_M → Prop} {X : Option Int32 × mm_M → Int32 × mm_M → Prop} (hi : 0 ≤ i.toInt ∧ i.toInt + 6 ≤ L ∧ L ≤ 4000) (hc : ck + 1 ≤ 601024 ∧ sk + 6 ≤ 7293034) (h8 : σ.2.1 o8 = some (.inl 8)) (hst : lw_stepG (fun τ => fX8_nothing o8 (xs (i + 1).toNatClampNeg) τ) (fun τ => fX9_nothing o9 (xs (i + 1).toNatClampNeg) τ) o9 out σ N X) (kk : ∀ σ', N σ' → JL G A b L xs 896 [(0, .ref b), (1, .ref o8), (2, .ref o9), (3, .ref out), (4, .int i)] [] σ' (ck + 1) (sk + 6)) : JL G A b L xs 445 [(0, .ref b), (1, .ref o8), (2, .ref o9), (3, .ref out), (4, .int i)] [] σ ck sk := by
  refine mm_aload_n (j := 1) dL_law_445 rfl rfl ?_
  refine mm_aload_n (j := 0) dL_law_446 rfl rfl ?_
  refine mm_iload (j := 4) dL_law_447 rfl ?_
  refine mm_iconst (v := 1) dL_law_449 (by decide) ?_
  refine mm_iadd dL_law_450 ?_
  refine lw_sld (lw_in hi (by decide)) dL_law_451 ?_
  refine mm_aload_n (j := 3) dL_law_452 rfl rfl ?_
  obtain ⟨Rr, hf8, hso, hs0, hs1⟩ := hst
  refine lw_callH (kL_nothing o8 (xs (i + 1).toNatClampNeg) out hf8 h8 hso (by decide)) tw_622 tw_624 tw_0 tw_623 nmL_nothing rfl rfl (by simp only [List.map_cons, List.map_nil, mm_rf_cat]; exact Nat.le_of_ble_eq_true rfl) dL_law_453 ⟨Nat.le_of_ble_eq_true rfl, Nat.le_of_ble_eq_true rfl⟩ ⟨by have := hc.1; show ck + 1 ≤ 601024; omega, by have := hc.2; show sk + 6 ≤ 7293034; omega⟩ (fun r hr => ?_) (fun hr z => ?_)
  · obtain ⟨h9, R9, hf9, h9b, hso9, hlo, hN, -⟩ := hs0 r hr
    refine mm_istore (L' := [(5, .int 0), (0, .ref b), (1, .ref o8), (2, .ref o9), (3, .ref out), (4, .int i)]) dL_law_456 (by decide) rfl ?_
    refine mm_aload_n (j := 3) dL_law_458 rfl rfl ?_
    refine mm_aload_n (j := 1) dL_law_459 rfl rfl ?_
    refine mm_iload (j := 5) dL_law_460 rfl ?_
    refine mm_iconst (v := 1) dL_law_462 (by decide) ?_
    refine mm_iadd dL_law_463 ?_
    refine lw_sld (lw_in hi (by decide)) dL_law_464 ?_
    refine mm_callVi cd_ok (kX9_nothing o9 (xs (i + 1).toNatClampNeg) hf9) h9 rfl (Or.inl tw_1073) cdX9_nothing tw_1074 tw_1075 nmX9_nothing rfl rfl (by simp only [List.map_cons, List.map_nil, mm_rf_cat]; exact Nat.le_of_ble_eq_true rfl) dL_law_465 ⟨Nat.le_of_ble_eq_true rfl, Nat.le_of_ble_eq_true rfl⟩ ⟨by have := hc.1; show ck + 1 + 0 ≤ 601024; omega, by have := hc.2; show sk + 6 + 0 ≤ 7293034; omega⟩ ?_
    refine mm_istore (L' := [(6, .int R9.1), (5, .int 0), (0, .ref b), (1, .ref o8), (2, .ref o9), (3, .ref out), (4, .int i)]) dL_law_468 (by decide) rfl ?_
    refine mm_goto (tgt := 896) dL_law_470 (by decide) ?_
    refine mm_sub [2, 3, 4, 5, 6] rfl ?_
    refine mm_widen (ck' := ck + 1) (sk' := sk + 6) (by show ck + 1 + 0 ≤ ck + 1; omega) (by show sk + 6 + 0 ≤ sk + 6; omega) ?_
    exact kk _ hN
  · refine lw_lt (fun hlt => ?_)
    obtain ⟨h9, R9, hf9, h9b, hN, -⟩ := hs1 hr z hlt
    refine mm_istore (L' := [(5, .int 1), (0, .ref b), (1, .ref o8), (2, .ref o9), (3, .ref out), (4, .int i)]) dL_law_456 (by decide) rfl ?_
    refine mm_aload_n (j := 3) dL_law_458 rfl rfl ?_
    refine mm_aload_n (j := 1) dL_law_459 rfl rfl ?_
    refine mm_iload (j := 5) dL_law_460 rfl ?_
    refine mm_iconst (v := 1) dL_law_462 (by decide) ?_
    refine mm_iadd dL_law_463 ?_
    refine lw_sld (lw_in hi (by decide)) dL_law_464 ?_
    refine mm_callVi cd_ok (kX9_nothing o9 (xs (i + 1).toNatClampNeg) hf9) h9 rfl (Or.inl tw_1073) cdX9_nothing tw_1074 tw_1075 nmX9_nothing rfl rfl (by simp only [List.map_cons, List.map_nil, mm_rf_cat]; exact Nat.le_of_ble_eq_true rfl) dL_law_465 ⟨Nat.le_of_ble_eq_true rfl, Nat.le_of_ble_eq_true rfl⟩ ⟨by have := hc.1; show ck + 1 + 0 ≤ 601024; omega, by have := hc.2; show sk + 6 + 0 ≤ 7293034; omega⟩ ?_
    refine mm_istore (L' := [(6, .int R9.1), (5, .int 1), (0, .ref b), (1, .ref o8), (2, .ref o9), (3, .ref out), (4, .int i)]) dL_law_468 (by decide) rfl ?_
    refine mm_goto (tgt := 896) dL_law_470 (by decide) ?_
    refine mm_sub [2, 3, 4, 5, 6] rfl ?_
    refine mm_widen (ck' := ck + 1) (sk' := sk + 6) (by show ck + 1 + 0 ≤ ck + 1; omega) (by show sk + 6 + 0 ≤ sk + 6; omega) ?_
    exact kk _ hN
set_option maxHeartbeats 4000000 in
set_option maxRecDepth 100000 in
theorem bL_pages {G : mm_G} {A : Nat → Prop} {b L o8 o9 out : Nat} {xs : Nat → Int32} {i : Int32} {σ : mm_M} {ck sk : Nat} {N : mm_M → Prop} {X : Int32 × mm_M → Int32 × mm_M → Prop} (hi : 0 ≤ i.toInt ∧ i.toInt + 6 ≤ L ∧ L ≤ 4000) (hc : ck + 0 ≤ 601024 ∧ sk + 0 ≤ 7293034) (h8 : σ.2.1 o8 = some (.inl 8)) (hst : lw_stepH (fun τ => fX8_pages o8  τ) (fun τ => fX9_pages o9  τ) o9 σ N X) (kk : ∀ σ', N σ' → JL G A b L xs 896 [(0, .ref b), (1, .ref o8), (2, .ref o9), (3, .ref out), (4, .int i)] [] σ' (ck + 0) (sk + 0)) : JL G A b L xs 473 [(0, .ref b), (1, .ref o8), (2, .ref o9), (3, .ref out), (4, .int i)] [] σ ck sk := by
  refine mm_aload_n (j := 1) dL_law_473 rfl rfl ?_
  obtain ⟨R8, hf8, h9, R9, hf9, hN, -⟩ := hst
  refine mm_callVi cd_ok (kX8_pages o8 hf8) h8 rfl (Or.inl tw_204) cdX8_pages tw_205 tw_206 nmX8_pages rfl rfl (by simp only [List.map_cons, List.map_nil, mm_rf_cat]; exact Nat.le_of_ble_eq_true rfl) dL_law_474 ⟨Nat.le_of_ble_eq_true rfl, Nat.le_of_ble_eq_true rfl⟩ ⟨by have := hc.1; show ck + 0 ≤ 601024; omega, by have := hc.2; show sk + 0 ≤ 7293034; omega⟩ ?_
  refine mm_pop dL_law_477 rfl ?_
  refine mm_aload_n (j := 2) dL_law_478 rfl rfl ?_
  refine mm_callVi cd_ok (kX9_pages o9 hf9) h9 rfl (Or.inl tw_1077) cdX9_pages tw_1078 tw_1079 nmX9_pages rfl rfl (by simp only [List.map_cons, List.map_nil, mm_rf_cat]; exact Nat.le_of_ble_eq_true rfl) dL_law_479 ⟨Nat.le_of_ble_eq_true rfl, Nat.le_of_ble_eq_true rfl⟩ ⟨by have := hc.1; show ck + 0 + 0 ≤ 601024; omega, by have := hc.2; show sk + 0 + 0 ≤ 7293034; omega⟩ ?_
  refine mm_pop dL_law_482 rfl ?_
  refine mm_goto (tgt := 896) dL_law_483 (by decide) ?_
  refine mm_sub [0, 1, 2, 3, 4] rfl ?_
  refine mm_widen (ck' := ck + 0) (sk' := sk + 0) (by show ck + 0 + 0 ≤ ck + 0; omega) (by show sk + 0 + 0 ≤ sk + 0; omega) ?_
  exact kk _ hN
set_option maxHeartbeats 4000000 in
set_option maxRecDepth 100000 in
theorem bL_find {G : mm_G} {A : Nat → Prop} {b L o8 o9 out : Nat} {xs : Nat → Int32} {i : Int32} {σ : mm_M} {ck sk : Nat} {N : mm_M → Prop} {X : Int32 × mm_M → Int32 × mm_M → Prop} (hi : 0 ≤ i.toInt ∧ i.toInt + 6 ≤ L ∧ L ≤ 4000) (hc : ck + 0 ≤ 601024 ∧ sk + 0 ≤ 7293034) (h8 : σ.2.1 o8 = some (.inl 8)) (hst : lw_stepH (fun τ => fX8_find o8 (xs (i + 1).toNatClampNeg) (xs (i + 2).toNatClampNeg) (xs (i + 3).toNatClampNeg) τ) (fun τ => fX9_find o9 (xs (i + 1).toNatClampNeg) (xs (i + 2).toNatClampNeg) (xs (i + 3).toNatClampNeg) τ) o9 σ N X) (kk : ∀ σ', N σ' → JL G A b L xs 896 [(0, .ref b), (1, .ref o8), (2, .ref o9), (3, .ref out), (4, .int i)] [] σ' (ck + 0) (sk + 0)) : JL G A b L xs 486 [(0, .ref b), (1, .ref o8), (2, .ref o9), (3, .ref out), (4, .int i)] [] σ ck sk := by
  refine mm_aload_n (j := 1) dL_law_486 rfl rfl ?_
  refine mm_aload_n (j := 0) dL_law_487 rfl rfl ?_
  refine mm_iload (j := 4) dL_law_488 rfl ?_
  refine mm_iconst (v := 1) dL_law_490 (by decide) ?_
  refine mm_iadd dL_law_491 ?_
  refine lw_sld (lw_in hi (by decide)) dL_law_492 ?_
  refine mm_aload_n (j := 0) dL_law_493 rfl rfl ?_
  refine mm_iload (j := 4) dL_law_494 rfl ?_
  refine mm_iconst (v := 2) dL_law_496 (by decide) ?_
  refine mm_iadd dL_law_497 ?_
  refine lw_sld (lw_in hi (by decide)) dL_law_498 ?_
  refine mm_aload_n (j := 0) dL_law_499 rfl rfl ?_
  refine mm_iload (j := 4) dL_law_500 rfl ?_
  refine mm_iconst (v := 3) dL_law_502 (by decide) ?_
  refine mm_iadd dL_law_503 ?_
  refine lw_sld (lw_in hi (by decide)) dL_law_504 ?_
  obtain ⟨R8, hf8, h9, R9, hf9, hN, -⟩ := hst
  refine mm_callVi cd_ok (kX8_find o8 (xs (i + 1).toNatClampNeg) (xs (i + 2).toNatClampNeg) (xs (i + 3).toNatClampNeg) hf8) h8 rfl (Or.inl tw_208) cdX8_find tw_209 tw_210 nmX8_find rfl rfl (by simp only [List.map_cons, List.map_nil, mm_rf_cat]; exact Nat.le_of_ble_eq_true rfl) dL_law_505 ⟨Nat.le_of_ble_eq_true rfl, Nat.le_of_ble_eq_true rfl⟩ ⟨by have := hc.1; show ck + 0 ≤ 601024; omega, by have := hc.2; show sk + 0 ≤ 7293034; omega⟩ ?_
  refine mm_pop dL_law_508 rfl ?_
  refine mm_aload_n (j := 2) dL_law_509 rfl rfl ?_
  refine mm_aload_n (j := 0) dL_law_510 rfl rfl ?_
  refine mm_iload (j := 4) dL_law_511 rfl ?_
  refine mm_iconst (v := 1) dL_law_513 (by decide) ?_
  refine mm_iadd dL_law_514 ?_
  refine lw_sld (lw_in hi (by decide)) dL_law_515 ?_
  refine mm_aload_n (j := 0) dL_law_516 rfl rfl ?_
  refine mm_iload (j := 4) dL_law_517 rfl ?_
  refine mm_iconst (v := 2) dL_law_519 (by decide) ?_
  refine mm_iadd dL_law_520 ?_
  refine lw_sld (lw_in hi (by decide)) dL_law_521 ?_
  refine mm_aload_n (j := 0) dL_law_522 rfl rfl ?_
  refine mm_iload (j := 4) dL_law_523 rfl ?_
  refine mm_iconst (v := 3) dL_law_525 (by decide) ?_
  refine mm_iadd dL_law_526 ?_
  refine lw_sld (lw_in hi (by decide)) dL_law_527 ?_
  refine mm_callVi cd_ok (kX9_find o9 (xs (i + 1).toNatClampNeg) (xs (i + 2).toNatClampNeg) (xs (i + 3).toNatClampNeg) hf9) h9 rfl (Or.inl tw_1081) cdX9_find tw_1082 tw_1083 nmX9_find rfl rfl (by simp only [List.map_cons, List.map_nil, mm_rf_cat]; exact Nat.le_of_ble_eq_true rfl) dL_law_528 ⟨Nat.le_of_ble_eq_true rfl, Nat.le_of_ble_eq_true rfl⟩ ⟨by have := hc.1; show ck + 0 + 0 ≤ 601024; omega, by have := hc.2; show sk + 0 + 0 ≤ 7293034; omega⟩ ?_
  refine mm_pop dL_law_531 rfl ?_
  refine mm_goto (tgt := 896) dL_law_532 (by decide) ?_
  refine mm_sub [0, 1, 2, 3, 4] rfl ?_
  refine mm_widen (ck' := ck + 0) (sk' := sk + 0) (by show ck + 0 + 0 ≤ ck + 0; omega) (by show sk + 0 + 0 ≤ sk + 0; omega) ?_
  exact kk _ hN
set_option maxHeartbeats 4000000 in
set_option maxRecDepth 100000 in
theorem bL_page {G : mm_G} {A : Nat → Prop} {b L o8 o9 out : Nat} {xs : Nat → Int32} {i : Int32} {σ : mm_M} {ck sk : Nat} {N : mm_M → Prop} {X : Option Int32 × mm_M → Int32 × mm_M → Prop} (hi : 0 ≤ i.toInt ∧ i.toInt + 6 ≤ L ∧ L ≤ 4000) (hc : ck + 1 ≤ 601024 ∧ sk + 6 ≤ 7293034) (h8 : σ.2.1 o8 = some (.inl 8)) (hst : lw_stepG (fun τ => fX8_page o8 (xs (i + 1).toNatClampNeg) (xs (i + 2).toNatClampNeg) τ) (fun τ => fX9_page o9 (xs (i + 1).toNatClampNeg) (xs (i + 2).toNatClampNeg) τ) o9 out σ N X) (kk : ∀ σ', N σ' → JL G A b L xs 896 [(0, .ref b), (1, .ref o8), (2, .ref o9), (3, .ref out), (4, .int i)] [] σ' (ck + 1) (sk + 6)) : JL G A b L xs 535 [(0, .ref b), (1, .ref o8), (2, .ref o9), (3, .ref out), (4, .int i)] [] σ ck sk := by
  refine mm_aload_n (j := 1) dL_law_535 rfl rfl ?_
  refine mm_aload_n (j := 0) dL_law_536 rfl rfl ?_
  refine mm_iload (j := 4) dL_law_537 rfl ?_
  refine mm_iconst (v := 1) dL_law_539 (by decide) ?_
  refine mm_iadd dL_law_540 ?_
  refine lw_sld (lw_in hi (by decide)) dL_law_541 ?_
  refine mm_aload_n (j := 0) dL_law_542 rfl rfl ?_
  refine mm_iload (j := 4) dL_law_543 rfl ?_
  refine mm_iconst (v := 2) dL_law_545 (by decide) ?_
  refine mm_iadd dL_law_546 ?_
  refine lw_sld (lw_in hi (by decide)) dL_law_547 ?_
  refine mm_aload_n (j := 3) dL_law_548 rfl rfl ?_
  obtain ⟨Rr, hf8, hso, hs0, hs1⟩ := hst
  refine lw_callH (kL_page o8 (xs (i + 1).toNatClampNeg) (xs (i + 2).toNatClampNeg) out hf8 h8 hso (by decide)) tw_630 tw_632 tw_0 tw_631 nmL_page rfl rfl (by simp only [List.map_cons, List.map_nil, mm_rf_cat]; exact Nat.le_of_ble_eq_true rfl) dL_law_549 ⟨Nat.le_of_ble_eq_true rfl, Nat.le_of_ble_eq_true rfl⟩ ⟨by have := hc.1; show ck + 1 ≤ 601024; omega, by have := hc.2; show sk + 6 ≤ 7293034; omega⟩ (fun r hr => ?_) (fun hr z => ?_)
  · obtain ⟨h9, R9, hf9, h9b, hso9, hlo, hN, -⟩ := hs0 r hr
    refine mm_istore (L' := [(5, .int 0), (0, .ref b), (1, .ref o8), (2, .ref o9), (3, .ref out), (4, .int i)]) dL_law_552 (by decide) rfl ?_
    refine mm_aload_n (j := 3) dL_law_554 rfl rfl ?_
    refine mm_aload_n (j := 1) dL_law_555 rfl rfl ?_
    refine mm_iload (j := 5) dL_law_556 rfl ?_
    refine mm_iconst (v := 1) dL_law_558 (by decide) ?_
    refine mm_iadd dL_law_559 ?_
    refine lw_sld (lw_in hi (by decide)) dL_law_560 ?_
    refine mm_aload_n (j := 1) dL_law_561 rfl rfl ?_
    refine mm_iload (j := 5) dL_law_562 rfl ?_
    refine mm_iconst (v := 2) dL_law_564 (by decide) ?_
    refine mm_iadd dL_law_565 ?_
    refine lw_sld (lw_in hi (by decide)) dL_law_566 ?_
    refine mm_callVi cd_ok (kX9_page o9 (xs (i + 1).toNatClampNeg) (xs (i + 2).toNatClampNeg) hf9) h9 rfl (Or.inl tw_1085) cdX9_page tw_1086 tw_1087 nmX9_page rfl rfl (by simp only [List.map_cons, List.map_nil, mm_rf_cat]; exact Nat.le_of_ble_eq_true rfl) dL_law_567 ⟨Nat.le_of_ble_eq_true rfl, Nat.le_of_ble_eq_true rfl⟩ ⟨by have := hc.1; show ck + 1 + 0 ≤ 601024; omega, by have := hc.2; show sk + 6 + 0 ≤ 7293034; omega⟩ ?_
    refine mm_istore (L' := [(6, .int R9.1), (5, .int 0), (0, .ref b), (1, .ref o8), (2, .ref o9), (3, .ref out), (4, .int i)]) dL_law_570 (by decide) rfl ?_
    refine mm_goto (tgt := 896) dL_law_572 (by decide) ?_
    refine mm_sub [2, 3, 4, 5, 6] rfl ?_
    refine mm_widen (ck' := ck + 1) (sk' := sk + 6) (by show ck + 1 + 0 ≤ ck + 1; omega) (by show sk + 6 + 0 ≤ sk + 6; omega) ?_
    exact kk _ hN
  · refine lw_lt (fun hlt => ?_)
    obtain ⟨h9, R9, hf9, h9b, hN, -⟩ := hs1 hr z hlt
    refine mm_istore (L' := [(5, .int 1), (0, .ref b), (1, .ref o8), (2, .ref o9), (3, .ref out), (4, .int i)]) dL_law_552 (by decide) rfl ?_
    refine mm_aload_n (j := 3) dL_law_554 rfl rfl ?_
    refine mm_aload_n (j := 1) dL_law_555 rfl rfl ?_
    refine mm_iload (j := 5) dL_law_556 rfl ?_
    refine mm_iconst (v := 1) dL_law_558 (by decide) ?_
    refine mm_iadd dL_law_559 ?_
    refine lw_sld (lw_in hi (by decide)) dL_law_560 ?_
    refine mm_aload_n (j := 1) dL_law_561 rfl rfl ?_
    refine mm_iload (j := 5) dL_law_562 rfl ?_
    refine mm_iconst (v := 2) dL_law_564 (by decide) ?_
    refine mm_iadd dL_law_565 ?_
    refine lw_sld (lw_in hi (by decide)) dL_law_566 ?_
    refine mm_callVi cd_ok (kX9_page o9 (xs (i + 1).toNatClampNeg) (xs (i + 2).toNatClampNeg) hf9) h9 rfl (Or.inl tw_1085) cdX9_page tw_1086 tw_1087 nmX9_page rfl rfl (by simp only [List.map_cons, List.map_nil, mm_rf_cat]; exact Nat.le_of_ble_eq_true rfl) dL_law_567 ⟨Nat.le_of_ble_eq_true rfl, Nat.le_of_ble_eq_true rfl⟩ ⟨by have := hc.1; show ck + 1 + 0 ≤ 601024; omega, by have := hc.2; show sk + 6 + 0 ≤ 7293034; omega⟩ ?_
    refine mm_istore (L' := [(6, .int R9.1), (5, .int 1), (0, .ref b), (1, .ref o8), (2, .ref o9), (3, .ref out), (4, .int i)]) dL_law_570 (by decide) rfl ?_
    refine mm_goto (tgt := 896) dL_law_572 (by decide) ?_
    refine mm_sub [2, 3, 4, 5, 6] rfl ?_
    refine mm_widen (ck' := ck + 1) (sk' := sk + 6) (by show ck + 1 + 0 ≤ ck + 1; omega) (by show sk + 6 + 0 ≤ sk + 6; omega) ?_
    exact kk _ hN
set_option maxHeartbeats 4000000 in
set_option maxRecDepth 100000 in
theorem bL_sign {G : mm_G} {A : Nat → Prop} {b L o8 o9 out : Nat} {xs : Nat → Int32} {i : Int32} {σ : mm_M} {ck sk : Nat} {N : mm_M → Prop} {X : Option Int32 × mm_M → Int32 × mm_M → Prop} (hi : 0 ≤ i.toInt ∧ i.toInt + 6 ≤ L ∧ L ≤ 4000) (hc : ck + 1 ≤ 601024 ∧ sk + 6 ≤ 7293034) (h8 : σ.2.1 o8 = some (.inl 8)) (hst : lw_stepG (fun τ => fX8_sign o8 (xs (i + 1).toNatClampNeg) (xs (i + 2).toNatClampNeg) (xs (i + 3).toNatClampNeg) τ) (fun τ => fX9_sign o9 (xs (i + 1).toNatClampNeg) (xs (i + 2).toNatClampNeg) (xs (i + 3).toNatClampNeg) τ) o9 out σ N X) (kk : ∀ σ', N σ' → JL G A b L xs 896 [(0, .ref b), (1, .ref o8), (2, .ref o9), (3, .ref out), (4, .int i)] [] σ' (ck + 1) (sk + 6)) : JL G A b L xs 575 [(0, .ref b), (1, .ref o8), (2, .ref o9), (3, .ref out), (4, .int i)] [] σ ck sk := by
  refine mm_aload_n (j := 1) dL_law_575 rfl rfl ?_
  refine mm_aload_n (j := 0) dL_law_576 rfl rfl ?_
  refine mm_iload (j := 4) dL_law_577 rfl ?_
  refine mm_iconst (v := 1) dL_law_579 (by decide) ?_
  refine mm_iadd dL_law_580 ?_
  refine lw_sld (lw_in hi (by decide)) dL_law_581 ?_
  refine mm_aload_n (j := 0) dL_law_582 rfl rfl ?_
  refine mm_iload (j := 4) dL_law_583 rfl ?_
  refine mm_iconst (v := 2) dL_law_585 (by decide) ?_
  refine mm_iadd dL_law_586 ?_
  refine lw_sld (lw_in hi (by decide)) dL_law_587 ?_
  refine mm_aload_n (j := 0) dL_law_588 rfl rfl ?_
  refine mm_iload (j := 4) dL_law_589 rfl ?_
  refine mm_iconst (v := 3) dL_law_591 (by decide) ?_
  refine mm_iadd dL_law_592 ?_
  refine lw_sld (lw_in hi (by decide)) dL_law_593 ?_
  refine mm_aload_n (j := 3) dL_law_594 rfl rfl ?_
  obtain ⟨Rr, hf8, hso, hs0, hs1⟩ := hst
  refine lw_callH (kL_sign o8 (xs (i + 1).toNatClampNeg) (xs (i + 2).toNatClampNeg) (xs (i + 3).toNatClampNeg) out hf8 h8 hso (by decide)) tw_638 tw_640 tw_0 tw_639 nmL_sign rfl rfl (by simp only [List.map_cons, List.map_nil, mm_rf_cat]; exact Nat.le_of_ble_eq_true rfl) dL_law_595 ⟨Nat.le_of_ble_eq_true rfl, Nat.le_of_ble_eq_true rfl⟩ ⟨by have := hc.1; show ck + 1 ≤ 601024; omega, by have := hc.2; show sk + 6 ≤ 7293034; omega⟩ (fun r hr => ?_) (fun hr z => ?_)
  · obtain ⟨h9, R9, hf9, h9b, hso9, hlo, hN, -⟩ := hs0 r hr
    refine mm_istore (L' := [(5, .int 0), (0, .ref b), (1, .ref o8), (2, .ref o9), (3, .ref out), (4, .int i)]) dL_law_598 (by decide) rfl ?_
    refine mm_aload_n (j := 3) dL_law_600 rfl rfl ?_
    refine mm_aload_n (j := 1) dL_law_601 rfl rfl ?_
    refine mm_iload (j := 5) dL_law_602 rfl ?_
    refine mm_iconst (v := 1) dL_law_604 (by decide) ?_
    refine mm_iadd dL_law_605 ?_
    refine lw_sld (lw_in hi (by decide)) dL_law_606 ?_
    refine mm_aload_n (j := 1) dL_law_607 rfl rfl ?_
    refine mm_iload (j := 5) dL_law_608 rfl ?_
    refine mm_iconst (v := 2) dL_law_610 (by decide) ?_
    refine mm_iadd dL_law_611 ?_
    refine lw_sld (lw_in hi (by decide)) dL_law_612 ?_
    refine mm_aload_n (j := 1) dL_law_613 rfl rfl ?_
    refine mm_iload (j := 5) dL_law_614 rfl ?_
    refine mm_iconst (v := 3) dL_law_616 (by decide) ?_
    refine mm_iadd dL_law_617 ?_
    refine lw_sld (lw_in hi (by decide)) dL_law_618 ?_
    refine mm_callVi cd_ok (kX9_sign o9 (xs (i + 1).toNatClampNeg) (xs (i + 2).toNatClampNeg) (xs (i + 3).toNatClampNeg) hf9) h9 rfl (Or.inl tw_1089) cdX9_sign tw_1090 tw_1091 nmX9_sign rfl rfl (by simp only [List.map_cons, List.map_nil, mm_rf_cat]; exact Nat.le_of_ble_eq_true rfl) dL_law_619 ⟨Nat.le_of_ble_eq_true rfl, Nat.le_of_ble_eq_true rfl⟩ ⟨by have := hc.1; show ck + 1 + 0 ≤ 601024; omega, by have := hc.2; show sk + 6 + 0 ≤ 7293034; omega⟩ ?_
    refine mm_istore (L' := [(6, .int R9.1), (5, .int 0), (0, .ref b), (1, .ref o8), (2, .ref o9), (3, .ref out), (4, .int i)]) dL_law_622 (by decide) rfl ?_
    refine mm_goto (tgt := 896) dL_law_624 (by decide) ?_
    refine mm_sub [2, 3, 4, 5, 6] rfl ?_
    refine mm_widen (ck' := ck + 1) (sk' := sk + 6) (by show ck + 1 + 0 ≤ ck + 1; omega) (by show sk + 6 + 0 ≤ sk + 6; omega) ?_
    exact kk _ hN
  · refine lw_lt (fun hlt => ?_)
    obtain ⟨h9, R9, hf9, h9b, hN, -⟩ := hs1 hr z hlt
    refine mm_istore (L' := [(5, .int 1), (0, .ref b), (1, .ref o8), (2, .ref o9), (3, .ref out), (4, .int i)]) dL_law_598 (by decide) rfl ?_
    refine mm_aload_n (j := 3) dL_law_600 rfl rfl ?_
    refine mm_aload_n (j := 1) dL_law_601 rfl rfl ?_
    refine mm_iload (j := 5) dL_law_602 rfl ?_
    refine mm_iconst (v := 1) dL_law_604 (by decide) ?_
    refine mm_iadd dL_law_605 ?_
    refine lw_sld (lw_in hi (by decide)) dL_law_606 ?_
    refine mm_aload_n (j := 1) dL_law_607 rfl rfl ?_
    refine mm_iload (j := 5) dL_law_608 rfl ?_
    refine mm_iconst (v := 2) dL_law_610 (by decide) ?_
    refine mm_iadd dL_law_611 ?_
    refine lw_sld (lw_in hi (by decide)) dL_law_612 ?_
    refine mm_aload_n (j := 1) dL_law_613 rfl rfl ?_
    refine mm_iload (j := 5) dL_law_614 rfl ?_
    refine mm_iconst (v := 3) dL_law_616 (by decide) ?_
    refine mm_iadd dL_law_617 ?_
    refine lw_sld (lw_in hi (by decide)) dL_law_618 ?_
    refine mm_callVi cd_ok (kX9_sign o9 (xs (i + 1).toNatClampNeg) (xs (i + 2).toNatClampNeg) (xs (i + 3).toNatClampNeg) hf9) h9 rfl (Or.inl tw_1089) cdX9_sign tw_1090 tw_1091 nmX9_sign rfl rfl (by simp only [List.map_cons, List.map_nil, mm_rf_cat]; exact Nat.le_of_ble_eq_true rfl) dL_law_619 ⟨Nat.le_of_ble_eq_true rfl, Nat.le_of_ble_eq_true rfl⟩ ⟨by have := hc.1; show ck + 1 + 0 ≤ 601024; omega, by have := hc.2; show sk + 6 + 0 ≤ 7293034; omega⟩ ?_
    refine mm_istore (L' := [(6, .int R9.1), (5, .int 1), (0, .ref b), (1, .ref o8), (2, .ref o9), (3, .ref out), (4, .int i)]) dL_law_622 (by decide) rfl ?_
    refine mm_goto (tgt := 896) dL_law_624 (by decide) ?_
    refine mm_sub [2, 3, 4, 5, 6] rfl ?_
    refine mm_widen (ck' := ck + 1) (sk' := sk + 6) (by show ck + 1 + 0 ≤ ck + 1; omega) (by show sk + 6 + 0 ≤ sk + 6; omega) ?_
    exact kk _ hN
set_option maxHeartbeats 4000000 in
set_option maxRecDepth 100000 in
theorem bL_link {G : mm_G} {A : Nat → Prop} {b L o8 o9 out : Nat} {xs : Nat → Int32} {i : Int32} {σ : mm_M} {ck sk : Nat} {N : mm_M → Prop} {X : Option Int32 × mm_M → Int32 × mm_M → Prop} (hi : 0 ≤ i.toInt ∧ i.toInt + 6 ≤ L ∧ L ≤ 4000) (hc : ck + 1 ≤ 601024 ∧ sk + 6 ≤ 7293034) (h8 : σ.2.1 o8 = some (.inl 8)) (hst : lw_stepG (fun τ => fX8_link o8 (xs (i + 1).toNatClampNeg) (xs (i + 2).toNatClampNeg) (xs (i + 3).toNatClampNeg) τ) (fun τ => fX9_link o9 (xs (i + 1).toNatClampNeg) (xs (i + 2).toNatClampNeg) (xs (i + 3).toNatClampNeg) τ) o9 out σ N X) (kk : ∀ σ', N σ' → JL G A b L xs 896 [(0, .ref b), (1, .ref o8), (2, .ref o9), (3, .ref out), (4, .int i)] [] σ' (ck + 1) (sk + 6)) : JL G A b L xs 627 [(0, .ref b), (1, .ref o8), (2, .ref o9), (3, .ref out), (4, .int i)] [] σ ck sk := by
  refine mm_aload_n (j := 1) dL_law_627 rfl rfl ?_
  refine mm_aload_n (j := 0) dL_law_628 rfl rfl ?_
  refine mm_iload (j := 4) dL_law_629 rfl ?_
  refine mm_iconst (v := 1) dL_law_631 (by decide) ?_
  refine mm_iadd dL_law_632 ?_
  refine lw_sld (lw_in hi (by decide)) dL_law_633 ?_
  refine mm_aload_n (j := 0) dL_law_634 rfl rfl ?_
  refine mm_iload (j := 4) dL_law_635 rfl ?_
  refine mm_iconst (v := 2) dL_law_637 (by decide) ?_
  refine mm_iadd dL_law_638 ?_
  refine lw_sld (lw_in hi (by decide)) dL_law_639 ?_
  refine mm_aload_n (j := 0) dL_law_640 rfl rfl ?_
  refine mm_iload (j := 4) dL_law_641 rfl ?_
  refine mm_iconst (v := 3) dL_law_643 (by decide) ?_
  refine mm_iadd dL_law_644 ?_
  refine lw_sld (lw_in hi (by decide)) dL_law_645 ?_
  refine mm_aload_n (j := 3) dL_law_646 rfl rfl ?_
  obtain ⟨Rr, hf8, hso, hs0, hs1⟩ := hst
  refine lw_callH (kL_link o8 (xs (i + 1).toNatClampNeg) (xs (i + 2).toNatClampNeg) (xs (i + 3).toNatClampNeg) out hf8 h8 hso (by decide)) tw_650 tw_652 tw_0 tw_651 nmL_link rfl rfl (by simp only [List.map_cons, List.map_nil, mm_rf_cat]; exact Nat.le_of_ble_eq_true rfl) dL_law_647 ⟨Nat.le_of_ble_eq_true rfl, Nat.le_of_ble_eq_true rfl⟩ ⟨by have := hc.1; show ck + 1 ≤ 601024; omega, by have := hc.2; show sk + 6 ≤ 7293034; omega⟩ (fun r hr => ?_) (fun hr z => ?_)
  · obtain ⟨h9, R9, hf9, h9b, hso9, hlo, hN, -⟩ := hs0 r hr
    refine mm_istore (L' := [(5, .int 0), (0, .ref b), (1, .ref o8), (2, .ref o9), (3, .ref out), (4, .int i)]) dL_law_650 (by decide) rfl ?_
    refine mm_aload_n (j := 3) dL_law_652 rfl rfl ?_
    refine mm_aload_n (j := 1) dL_law_653 rfl rfl ?_
    refine mm_iload (j := 5) dL_law_654 rfl ?_
    refine mm_iconst (v := 1) dL_law_656 (by decide) ?_
    refine mm_iadd dL_law_657 ?_
    refine lw_sld (lw_in hi (by decide)) dL_law_658 ?_
    refine mm_aload_n (j := 1) dL_law_659 rfl rfl ?_
    refine mm_iload (j := 5) dL_law_660 rfl ?_
    refine mm_iconst (v := 2) dL_law_662 (by decide) ?_
    refine mm_iadd dL_law_663 ?_
    refine lw_sld (lw_in hi (by decide)) dL_law_664 ?_
    refine mm_aload_n (j := 1) dL_law_665 rfl rfl ?_
    refine mm_iload (j := 5) dL_law_666 rfl ?_
    refine mm_iconst (v := 3) dL_law_668 (by decide) ?_
    refine mm_iadd dL_law_669 ?_
    refine lw_sld (lw_in hi (by decide)) dL_law_670 ?_
    refine mm_callVi cd_ok (kX9_link o9 (xs (i + 1).toNatClampNeg) (xs (i + 2).toNatClampNeg) (xs (i + 3).toNatClampNeg) hf9) h9 rfl (Or.inl tw_1093) cdX9_link tw_1094 tw_1095 nmX9_link rfl rfl (by simp only [List.map_cons, List.map_nil, mm_rf_cat]; exact Nat.le_of_ble_eq_true rfl) dL_law_671 ⟨Nat.le_of_ble_eq_true rfl, Nat.le_of_ble_eq_true rfl⟩ ⟨by have := hc.1; show ck + 1 + 0 ≤ 601024; omega, by have := hc.2; show sk + 6 + 0 ≤ 7293034; omega⟩ ?_
    refine mm_istore (L' := [(6, .int R9.1), (5, .int 0), (0, .ref b), (1, .ref o8), (2, .ref o9), (3, .ref out), (4, .int i)]) dL_law_674 (by decide) rfl ?_
    refine mm_goto (tgt := 896) dL_law_676 (by decide) ?_
    refine mm_sub [2, 3, 4, 5, 6] rfl ?_
    refine mm_widen (ck' := ck + 1) (sk' := sk + 6) (by show ck + 1 + 0 ≤ ck + 1; omega) (by show sk + 6 + 0 ≤ sk + 6; omega) ?_
    exact kk _ hN
  · refine lw_lt (fun hlt => ?_)
    obtain ⟨h9, R9, hf9, h9b, hN, -⟩ := hs1 hr z hlt
    refine mm_istore (L' := [(5, .int 1), (0, .ref b), (1, .ref o8), (2, .ref o9), (3, .ref out), (4, .int i)]) dL_law_650 (by decide) rfl ?_
    refine mm_aload_n (j := 3) dL_law_652 rfl rfl ?_
    refine mm_aload_n (j := 1) dL_law_653 rfl rfl ?_
    refine mm_iload (j := 5) dL_law_654 rfl ?_
    refine mm_iconst (v := 1) dL_law_656 (by decide) ?_
    refine mm_iadd dL_law_657 ?_
    refine lw_sld (lw_in hi (by decide)) dL_law_658 ?_
    refine mm_aload_n (j := 1) dL_law_659 rfl rfl ?_
    refine mm_iload (j := 5) dL_law_660 rfl ?_
    refine mm_iconst (v := 2) dL_law_662 (by decide) ?_
    refine mm_iadd dL_law_663 ?_
    refine lw_sld (lw_in hi (by decide)) dL_law_664 ?_
    refine mm_aload_n (j := 1) dL_law_665 rfl rfl ?_
    refine mm_iload (j := 5) dL_law_666 rfl ?_
    refine mm_iconst (v := 3) dL_law_668 (by decide) ?_
    refine mm_iadd dL_law_669 ?_
    refine lw_sld (lw_in hi (by decide)) dL_law_670 ?_
    refine mm_callVi cd_ok (kX9_link o9 (xs (i + 1).toNatClampNeg) (xs (i + 2).toNatClampNeg) (xs (i + 3).toNatClampNeg) hf9) h9 rfl (Or.inl tw_1093) cdX9_link tw_1094 tw_1095 nmX9_link rfl rfl (by simp only [List.map_cons, List.map_nil, mm_rf_cat]; exact Nat.le_of_ble_eq_true rfl) dL_law_671 ⟨Nat.le_of_ble_eq_true rfl, Nat.le_of_ble_eq_true rfl⟩ ⟨by have := hc.1; show ck + 1 + 0 ≤ 601024; omega, by have := hc.2; show sk + 6 + 0 ≤ 7293034; omega⟩ ?_
    refine mm_istore (L' := [(6, .int R9.1), (5, .int 1), (0, .ref b), (1, .ref o8), (2, .ref o9), (3, .ref out), (4, .int i)]) dL_law_674 (by decide) rfl ?_
    refine mm_goto (tgt := 896) dL_law_676 (by decide) ?_
    refine mm_sub [2, 3, 4, 5, 6] rfl ?_
    refine mm_widen (ck' := ck + 1) (sk' := sk + 6) (by show ck + 1 + 0 ≤ ck + 1; omega) (by show sk + 6 + 0 ≤ sk + 6; omega) ?_
    exact kk _ hN
set_option maxHeartbeats 4000000 in
set_option maxRecDepth 100000 in
theorem bL_open {G : mm_G} {A : Nat → Prop} {b L o8 o9 out : Nat} {xs : Nat → Int32} {i : Int32} {σ : mm_M} {ck sk : Nat} {N : mm_M → Prop} (hi : 0 ≤ i.toInt ∧ i.toInt + 6 ≤ L ∧ L ≤ 4000) (hc : ck + 1 ≤ 601024 ∧ sk + 6 ≤ 7293034) (h8 : σ.2.1 o8 = some (.inl 8)) (hst : lw_step (fun τ => fX8_open o8 (xs (i + 1).toNatClampNeg) τ) (fun τ => fX9_open o9 (xs (i + 1).toNatClampNeg) τ) o9 out σ N) (kk : ∀ σ', N σ' → JL G A b L xs 896 [(0, .ref b), (1, .ref o8), (2, .ref o9), (3, .ref out), (4, .int i)] [] σ' (ck + 1) (sk + 6)) : JL G A b L xs 679 [(0, .ref b), (1, .ref o8), (2, .ref o9), (3, .ref out), (4, .int i)] [] σ ck sk := by
  refine mm_aload_n (j := 1) dL_law_679 rfl rfl ?_
  refine mm_aload_n (j := 0) dL_law_680 rfl rfl ?_
  refine mm_iload (j := 4) dL_law_681 rfl ?_
  refine mm_iconst (v := 1) dL_law_683 (by decide) ?_
  refine mm_iadd dL_law_684 ?_
  refine lw_sld (lw_in hi (by decide)) dL_law_685 ?_
  refine mm_aload_n (j := 3) dL_law_686 rfl rfl ?_
  obtain ⟨Rr, hf8, hso, hs0, hs1⟩ := hst
  refine lw_callH (kL_open o8 (xs (i + 1).toNatClampNeg) out hf8 h8 hso (by decide)) tw_658 tw_660 tw_0 tw_659 nmL_open rfl rfl (by simp only [List.map_cons, List.map_nil, mm_rf_cat]; exact Nat.le_of_ble_eq_true rfl) dL_law_687 ⟨Nat.le_of_ble_eq_true rfl, Nat.le_of_ble_eq_true rfl⟩ ⟨by have := hc.1; show ck + 1 ≤ 601024; omega, by have := hc.2; show sk + 6 ≤ 7293034; omega⟩ (fun r hr => ?_) (fun hr z => ?_)
  · obtain ⟨h9, R9, hf9, h9b, ht, hb9, hso9, hlo, hN⟩ := hs0 r hr
    refine mm_istore (L' := [(5, .int 0), (0, .ref b), (1, .ref o8), (2, .ref o9), (3, .ref out), (4, .int i)]) dL_law_690 (by decide) rfl ?_
    refine mm_aload_n (j := 3) dL_law_692 rfl rfl ?_
    refine mm_aload_n (j := 1) dL_law_693 rfl rfl ?_
    refine mm_iload (j := 5) dL_law_694 rfl ?_
    refine mm_iconst (v := 1) dL_law_696 (by decide) ?_
    refine mm_iadd dL_law_697 ?_
    refine lw_sld (lw_in hi (by decide)) dL_law_698 ?_
    refine mm_callVi cd_ok (kX9_open o9 (xs (i + 1).toNatClampNeg) hf9) h9 rfl (Or.inl tw_1097) cdX9_open tw_1098 tw_1099 nmX9_open rfl rfl (by simp only [List.map_cons, List.map_nil, mm_rf_cat]; exact Nat.le_of_ble_eq_true rfl) dL_law_699 ⟨Nat.le_of_ble_eq_true rfl, Nat.le_of_ble_eq_true rfl⟩ ⟨by have := hc.1; show ck + 1 + 0 ≤ 601024; omega, by have := hc.2; show sk + 6 + 0 ≤ 7293034; omega⟩ ?_
    refine mm_istore (L' := [(6, .int R9.1), (5, .int 0), (0, .ref b), (1, .ref o8), (2, .ref o9), (3, .ref out), (4, .int i)]) dL_law_702 (by decide) rfl ?_
    refine mm_aload_n (j := 4) dL_law_704 rfl rfl ?_
    refine mm_callVi cd_ok (kX9_thrown o9 (show fX9_thrown o9 R9.2 = some (mm_I R9.2 o9 0, R9.2) from by unfold fX9_thrown mm_sh; rw [if_pos h9b])) h9b rfl (Or.inl tw_933) cdX9_thrown tw_934 tw_935 nmX9_thrown rfl rfl (by simp only [List.map_cons, List.map_nil, mm_rf_cat]; exact Nat.le_of_ble_eq_true rfl) dL_law_705 ⟨Nat.le_of_ble_eq_true rfl, Nat.le_of_ble_eq_true rfl⟩ ⟨by have := hc.1; show ck + 1 + 0 + 0 ≤ 601024; omega, by have := hc.2; show sk + 6 + 0 + 0 ≤ 7293034; omega⟩ ?_
    refine mm_iload (j := 1) dL_law_708 rfl ?_
    refine mm_icmp_eq (tgt := 715) dL_law_710 (by decide) (fun _ => ?_) (fun h => absurd ht h)
    refine mm_iload (j := 1) dL_law_715 rfl ?_
    refine mm_if_ne (tgt := 732) dL_law_717 (by decide) (fun h => absurd rfl h) (fun _ => ?_)
    refine mm_aload_n (j := 5) dL_law_720 rfl rfl ?_
    refine mm_iconst (v := 0) dL_law_721 (by decide) ?_
    refine mm_lald hso9 rfl (mm_in0 (by decide)) dL_law_722 ?_
    refine mm_iload (j := 0) dL_law_723 rfl ?_
    refine mm_i2l dL_law_725 ?_
    refine lw_lcmp dL_law_726 ?_
    refine mm_if_eq (tgt := 732) dL_law_727 (by decide) (fun _ => ?_) (fun h => absurd (by rw [hlo, hb9]; exact lw_cmp_eq _) h)
    refine mm_goto (tgt := 896) dL_law_732 (by decide) ?_
    refine mm_sub [2, 3, 4, 5, 6] rfl ?_
    refine mm_widen (ck' := ck + 1) (sk' := sk + 6) (by show ck + 1 + 0 + 0 ≤ ck + 1; omega) (by show sk + 6 + 0 + 0 ≤ sk + 6; omega) ?_
    exact kk _ hN
  · refine lw_lt (fun hlt => ?_)
    obtain ⟨h9, R9, hf9, h9b, ht, hN⟩ := hs1 hr z hlt
    refine mm_istore (L' := [(5, .int 1), (0, .ref b), (1, .ref o8), (2, .ref o9), (3, .ref out), (4, .int i)]) dL_law_690 (by decide) rfl ?_
    refine mm_aload_n (j := 3) dL_law_692 rfl rfl ?_
    refine mm_aload_n (j := 1) dL_law_693 rfl rfl ?_
    refine mm_iload (j := 5) dL_law_694 rfl ?_
    refine mm_iconst (v := 1) dL_law_696 (by decide) ?_
    refine mm_iadd dL_law_697 ?_
    refine lw_sld (lw_in hi (by decide)) dL_law_698 ?_
    refine mm_callVi cd_ok (kX9_open o9 (xs (i + 1).toNatClampNeg) hf9) h9 rfl (Or.inl tw_1097) cdX9_open tw_1098 tw_1099 nmX9_open rfl rfl (by simp only [List.map_cons, List.map_nil, mm_rf_cat]; exact Nat.le_of_ble_eq_true rfl) dL_law_699 ⟨Nat.le_of_ble_eq_true rfl, Nat.le_of_ble_eq_true rfl⟩ ⟨by have := hc.1; show ck + 1 + 0 ≤ 601024; omega, by have := hc.2; show sk + 6 + 0 ≤ 7293034; omega⟩ ?_
    refine mm_istore (L' := [(6, .int R9.1), (5, .int 1), (0, .ref b), (1, .ref o8), (2, .ref o9), (3, .ref out), (4, .int i)]) dL_law_702 (by decide) rfl ?_
    refine mm_aload_n (j := 4) dL_law_704 rfl rfl ?_
    refine mm_callVi cd_ok (kX9_thrown o9 (show fX9_thrown o9 R9.2 = some (mm_I R9.2 o9 0, R9.2) from by unfold fX9_thrown mm_sh; rw [if_pos h9b])) h9b rfl (Or.inl tw_933) cdX9_thrown tw_934 tw_935 nmX9_thrown rfl rfl (by simp only [List.map_cons, List.map_nil, mm_rf_cat]; exact Nat.le_of_ble_eq_true rfl) dL_law_705 ⟨Nat.le_of_ble_eq_true rfl, Nat.le_of_ble_eq_true rfl⟩ ⟨by have := hc.1; show ck + 1 + 0 + 0 ≤ 601024; omega, by have := hc.2; show sk + 6 + 0 + 0 ≤ 7293034; omega⟩ ?_
    refine mm_iload (j := 1) dL_law_708 rfl ?_
    refine mm_icmp_eq (tgt := 715) dL_law_710 (by decide) (fun _ => ?_) (fun h => absurd ht h)
    refine mm_iload (j := 1) dL_law_715 rfl ?_
    refine mm_if_ne (tgt := 732) dL_law_717 (by decide) (fun _ => ?_) (fun h => absurd h (by decide))
    refine mm_goto (tgt := 896) dL_law_732 (by decide) ?_
    refine mm_sub [2, 3, 4, 5, 6] rfl ?_
    refine mm_widen (ck' := ck + 1) (sk' := sk + 6) (by show ck + 1 + 0 + 0 ≤ ck + 1; omega) (by show sk + 6 + 0 + 0 ≤ sk + 6; omega) ?_
    exact kk _ hN
set_option maxHeartbeats 4000000 in
set_option maxRecDepth 100000 in
theorem bL_watch {G : mm_G} {A : Nat → Prop} {b L o8 o9 out : Nat} {xs : Nat → Int32} {i : Int32} {σ : mm_M} {ck sk : Nat} {N : mm_M → Prop} {X : Option Int32 × mm_M → Int32 × mm_M → Prop} (hi : 0 ≤ i.toInt ∧ i.toInt + 6 ≤ L ∧ L ≤ 4000) (hc : ck + 1 ≤ 601024 ∧ sk + 6 ≤ 7293034) (h8 : σ.2.1 o8 = some (.inl 8)) (hst : lw_stepG (fun τ => fX8_watch o8 (xs (i + 1).toNatClampNeg) (xs (i + 2).toNatClampNeg) τ) (fun τ => fX9_watch o9 (xs (i + 1).toNatClampNeg) (xs (i + 2).toNatClampNeg) τ) o9 out σ N X) (kk : ∀ σ', N σ' → JL G A b L xs 896 [(0, .ref b), (1, .ref o8), (2, .ref o9), (3, .ref out), (4, .int i)] [] σ' (ck + 1) (sk + 6)) : JL G A b L xs 735 [(0, .ref b), (1, .ref o8), (2, .ref o9), (3, .ref out), (4, .int i)] [] σ ck sk := by
  refine mm_aload_n (j := 1) dL_law_735 rfl rfl ?_
  refine mm_aload_n (j := 0) dL_law_736 rfl rfl ?_
  refine mm_iload (j := 4) dL_law_737 rfl ?_
  refine mm_iconst (v := 1) dL_law_739 (by decide) ?_
  refine mm_iadd dL_law_740 ?_
  refine lw_sld (lw_in hi (by decide)) dL_law_741 ?_
  refine mm_aload_n (j := 0) dL_law_742 rfl rfl ?_
  refine mm_iload (j := 4) dL_law_743 rfl ?_
  refine mm_iconst (v := 2) dL_law_745 (by decide) ?_
  refine mm_iadd dL_law_746 ?_
  refine lw_sld (lw_in hi (by decide)) dL_law_747 ?_
  refine mm_aload_n (j := 3) dL_law_748 rfl rfl ?_
  obtain ⟨Rr, hf8, hso, hs0, hs1⟩ := hst
  refine lw_callH (kL_watch o8 (xs (i + 1).toNatClampNeg) (xs (i + 2).toNatClampNeg) out hf8 h8 hso (by decide)) tw_666 tw_668 tw_0 tw_667 nmL_watch rfl rfl (by simp only [List.map_cons, List.map_nil, mm_rf_cat]; exact Nat.le_of_ble_eq_true rfl) dL_law_749 ⟨Nat.le_of_ble_eq_true rfl, Nat.le_of_ble_eq_true rfl⟩ ⟨by have := hc.1; show ck + 1 ≤ 601024; omega, by have := hc.2; show sk + 6 ≤ 7293034; omega⟩ (fun r hr => ?_) (fun hr z => ?_)
  · obtain ⟨h9, R9, hf9, h9b, hso9, hlo, hN, -⟩ := hs0 r hr
    refine mm_istore (L' := [(5, .int 0), (0, .ref b), (1, .ref o8), (2, .ref o9), (3, .ref out), (4, .int i)]) dL_law_752 (by decide) rfl ?_
    refine mm_aload_n (j := 3) dL_law_754 rfl rfl ?_
    refine mm_aload_n (j := 1) dL_law_755 rfl rfl ?_
    refine mm_iload (j := 5) dL_law_756 rfl ?_
    refine mm_iconst (v := 1) dL_law_758 (by decide) ?_
    refine mm_iadd dL_law_759 ?_
    refine lw_sld (lw_in hi (by decide)) dL_law_760 ?_
    refine mm_aload_n (j := 1) dL_law_761 rfl rfl ?_
    refine mm_iload (j := 5) dL_law_762 rfl ?_
    refine mm_iconst (v := 2) dL_law_764 (by decide) ?_
    refine mm_iadd dL_law_765 ?_
    refine lw_sld (lw_in hi (by decide)) dL_law_766 ?_
    refine mm_callVi cd_ok (kX9_watch o9 (xs (i + 1).toNatClampNeg) (xs (i + 2).toNatClampNeg) hf9) h9 rfl (Or.inl tw_1105) cdX9_watch tw_1106 tw_1107 nmX9_watch rfl rfl (by simp only [List.map_cons, List.map_nil, mm_rf_cat]; exact Nat.le_of_ble_eq_true rfl) dL_law_767 ⟨Nat.le_of_ble_eq_true rfl, Nat.le_of_ble_eq_true rfl⟩ ⟨by have := hc.1; show ck + 1 + 0 ≤ 601024; omega, by have := hc.2; show sk + 6 + 0 ≤ 7293034; omega⟩ ?_
    refine mm_istore (L' := [(6, .int R9.1), (5, .int 0), (0, .ref b), (1, .ref o8), (2, .ref o9), (3, .ref out), (4, .int i)]) dL_law_770 (by decide) rfl ?_
    refine mm_goto (tgt := 896) dL_law_772 (by decide) ?_
    refine mm_sub [2, 3, 4, 5, 6] rfl ?_
    refine mm_widen (ck' := ck + 1) (sk' := sk + 6) (by show ck + 1 + 0 ≤ ck + 1; omega) (by show sk + 6 + 0 ≤ sk + 6; omega) ?_
    exact kk _ hN
  · refine lw_lt (fun hlt => ?_)
    obtain ⟨h9, R9, hf9, h9b, hN, -⟩ := hs1 hr z hlt
    refine mm_istore (L' := [(5, .int 1), (0, .ref b), (1, .ref o8), (2, .ref o9), (3, .ref out), (4, .int i)]) dL_law_752 (by decide) rfl ?_
    refine mm_aload_n (j := 3) dL_law_754 rfl rfl ?_
    refine mm_aload_n (j := 1) dL_law_755 rfl rfl ?_
    refine mm_iload (j := 5) dL_law_756 rfl ?_
    refine mm_iconst (v := 1) dL_law_758 (by decide) ?_
    refine mm_iadd dL_law_759 ?_
    refine lw_sld (lw_in hi (by decide)) dL_law_760 ?_
    refine mm_aload_n (j := 1) dL_law_761 rfl rfl ?_
    refine mm_iload (j := 5) dL_law_762 rfl ?_
    refine mm_iconst (v := 2) dL_law_764 (by decide) ?_
    refine mm_iadd dL_law_765 ?_
    refine lw_sld (lw_in hi (by decide)) dL_law_766 ?_
    refine mm_callVi cd_ok (kX9_watch o9 (xs (i + 1).toNatClampNeg) (xs (i + 2).toNatClampNeg) hf9) h9 rfl (Or.inl tw_1105) cdX9_watch tw_1106 tw_1107 nmX9_watch rfl rfl (by simp only [List.map_cons, List.map_nil, mm_rf_cat]; exact Nat.le_of_ble_eq_true rfl) dL_law_767 ⟨Nat.le_of_ble_eq_true rfl, Nat.le_of_ble_eq_true rfl⟩ ⟨by have := hc.1; show ck + 1 + 0 ≤ 601024; omega, by have := hc.2; show sk + 6 + 0 ≤ 7293034; omega⟩ ?_
    refine mm_istore (L' := [(6, .int R9.1), (5, .int 1), (0, .ref b), (1, .ref o8), (2, .ref o9), (3, .ref out), (4, .int i)]) dL_law_770 (by decide) rfl ?_
    refine mm_goto (tgt := 896) dL_law_772 (by decide) ?_
    refine mm_sub [2, 3, 4, 5, 6] rfl ?_
    refine mm_widen (ck' := ck + 1) (sk' := sk + 6) (by show ck + 1 + 0 ≤ ck + 1; omega) (by show sk + 6 + 0 ≤ sk + 6; omega) ?_
    exact kk _ hN
set_option maxHeartbeats 4000000 in
set_option maxRecDepth 100000 in
theorem bL_tick {G : mm_G} {A : Nat → Prop} {b L o8 o9 out : Nat} {xs : Nat → Int32} {i : Int32} {σ : mm_M} {ck sk : Nat} {N : mm_M → Prop} {X : Option Int32 × mm_M → Int32 × mm_M → Prop} (hi : 0 ≤ i.toInt ∧ i.toInt + 6 ≤ L ∧ L ≤ 4000) (hc : ck + 10 ≤ 601024 ∧ sk + 2020 ≤ 7293034) (h8 : σ.2.1 o8 = some (.inl 8)) (hst : lw_stepG (fun τ => fX8_tick o8 (xs (i + 1).toNatClampNeg) τ) (fun τ => fX9_tick o9 (xs (i + 1).toNatClampNeg) τ) o9 out σ N X) (kk : ∀ σ', N σ' → JL G A b L xs 896 [(0, .ref b), (1, .ref o8), (2, .ref o9), (3, .ref out), (4, .int i)] [] σ' (ck + 10) (sk + 2020)) : JL G A b L xs 775 [(0, .ref b), (1, .ref o8), (2, .ref o9), (3, .ref out), (4, .int i)] [] σ ck sk := by
  refine mm_aload_n (j := 1) dL_law_775 rfl rfl ?_
  refine mm_aload_n (j := 0) dL_law_776 rfl rfl ?_
  refine mm_iload (j := 4) dL_law_777 rfl ?_
  refine mm_iconst (v := 1) dL_law_779 (by decide) ?_
  refine mm_iadd dL_law_780 ?_
  refine lw_sld (lw_in hi (by decide)) dL_law_781 ?_
  refine mm_aload_n (j := 3) dL_law_782 rfl rfl ?_
  obtain ⟨Rr, hf8, hso, hs0, hs1⟩ := hst
  refine lw_callH (kL_tick o8 (xs (i + 1).toNatClampNeg) out hf8 h8 hso (by decide)) tw_695 tw_697 tw_0 tw_696 nmL_tick rfl rfl (by simp only [List.map_cons, List.map_nil, mm_rf_cat]; exact Nat.le_of_ble_eq_true rfl) dL_law_783 ⟨Nat.le_of_ble_eq_true rfl, Nat.le_of_ble_eq_true rfl⟩ ⟨by have := hc.1; show ck + 10 ≤ 601024; omega, by have := hc.2; show sk + 2020 ≤ 7293034; omega⟩ (fun r hr => ?_) (fun hr z => ?_)
  · obtain ⟨h9, R9, hf9, h9b, hso9, hlo, hN, -⟩ := hs0 r hr
    refine mm_istore (L' := [(5, .int 0), (0, .ref b), (1, .ref o8), (2, .ref o9), (3, .ref out), (4, .int i)]) dL_law_786 (by decide) rfl ?_
    refine mm_aload_n (j := 3) dL_law_788 rfl rfl ?_
    refine mm_aload_n (j := 1) dL_law_789 rfl rfl ?_
    refine mm_iload (j := 5) dL_law_790 rfl ?_
    refine mm_iconst (v := 1) dL_law_792 (by decide) ?_
    refine mm_iadd dL_law_793 ?_
    refine lw_sld (lw_in hi (by decide)) dL_law_794 ?_
    refine mm_callVi cd_ok (kX9_tick o9 (xs (i + 1).toNatClampNeg) hf9) h9 rfl (Or.inl tw_1109) cdX9_tick tw_1110 tw_1111 nmX9_tick rfl rfl (by simp only [List.map_cons, List.map_nil, mm_rf_cat]; exact Nat.le_of_ble_eq_true rfl) dL_law_795 ⟨Nat.le_of_ble_eq_true rfl, Nat.le_of_ble_eq_true rfl⟩ ⟨by have := hc.1; show ck + 10 + 0 ≤ 601024; omega, by have := hc.2; show sk + 2020 + 0 ≤ 7293034; omega⟩ ?_
    refine mm_istore (L' := [(6, .int R9.1), (5, .int 0), (0, .ref b), (1, .ref o8), (2, .ref o9), (3, .ref out), (4, .int i)]) dL_law_798 (by decide) rfl ?_
    refine mm_goto (tgt := 896) dL_law_800 (by decide) ?_
    refine mm_sub [2, 3, 4, 5, 6] rfl ?_
    refine mm_widen (ck' := ck + 10) (sk' := sk + 2020) (by show ck + 10 + 0 ≤ ck + 10; omega) (by show sk + 2020 + 0 ≤ sk + 2020; omega) ?_
    exact kk _ hN
  · refine lw_lt (fun hlt => ?_)
    obtain ⟨h9, R9, hf9, h9b, hN, -⟩ := hs1 hr z hlt
    refine mm_istore (L' := [(5, .int 1), (0, .ref b), (1, .ref o8), (2, .ref o9), (3, .ref out), (4, .int i)]) dL_law_786 (by decide) rfl ?_
    refine mm_aload_n (j := 3) dL_law_788 rfl rfl ?_
    refine mm_aload_n (j := 1) dL_law_789 rfl rfl ?_
    refine mm_iload (j := 5) dL_law_790 rfl ?_
    refine mm_iconst (v := 1) dL_law_792 (by decide) ?_
    refine mm_iadd dL_law_793 ?_
    refine lw_sld (lw_in hi (by decide)) dL_law_794 ?_
    refine mm_callVi cd_ok (kX9_tick o9 (xs (i + 1).toNatClampNeg) hf9) h9 rfl (Or.inl tw_1109) cdX9_tick tw_1110 tw_1111 nmX9_tick rfl rfl (by simp only [List.map_cons, List.map_nil, mm_rf_cat]; exact Nat.le_of_ble_eq_true rfl) dL_law_795 ⟨Nat.le_of_ble_eq_true rfl, Nat.le_of_ble_eq_true rfl⟩ ⟨by have := hc.1; show ck + 10 + 0 ≤ 601024; omega, by have := hc.2; show sk + 2020 + 0 ≤ 7293034; omega⟩ ?_
    refine mm_istore (L' := [(6, .int R9.1), (5, .int 1), (0, .ref b), (1, .ref o8), (2, .ref o9), (3, .ref out), (4, .int i)]) dL_law_798 (by decide) rfl ?_
    refine mm_goto (tgt := 896) dL_law_800 (by decide) ?_
    refine mm_sub [2, 3, 4, 5, 6] rfl ?_
    refine mm_widen (ck' := ck + 10) (sk' := sk + 2020) (by show ck + 10 + 0 ≤ ck + 10; omega) (by show sk + 2020 + 0 ≤ sk + 2020; omega) ?_
    exact kk _ hN
set_option maxHeartbeats 4000000 in
set_option maxRecDepth 100000 in
theorem bL_cues {G : mm_G} {A : Nat → Prop} {b L o8 o9 out : Nat} {xs : Nat → Int32} {i : Int32} {σ : mm_M} {ck sk : Nat} {N : mm_M → Prop} {X : Int32 × mm_M → Int32 × mm_M → Prop} (hi : 0 ≤ i.toInt ∧ i.toInt + 6 ≤ L ∧ L ≤ 4000) (hc : ck + 0 ≤ 601024 ∧ sk + 0 ≤ 7293034) (h8 : σ.2.1 o8 = some (.inl 8)) (hst : lw_stepH (fun τ => fX8_cues o8  τ) (fun τ => fX9_cues o9  τ) o9 σ N X) (kk : ∀ σ', N σ' → JL G A b L xs 896 [(0, .ref b), (1, .ref o8), (2, .ref o9), (3, .ref out), (4, .int i)] [] σ' (ck + 0) (sk + 0)) : JL G A b L xs 803 [(0, .ref b), (1, .ref o8), (2, .ref o9), (3, .ref out), (4, .int i)] [] σ ck sk := by
  refine mm_aload_n (j := 1) dL_law_803 rfl rfl ?_
  obtain ⟨R8, hf8, h9, R9, hf9, hN, -⟩ := hst
  refine mm_callVi cd_ok (kX8_cues o8 hf8) h8 rfl (Or.inl tw_227) cdX8_cues tw_228 tw_229 nmX8_cues rfl rfl (by simp only [List.map_cons, List.map_nil, mm_rf_cat]; exact Nat.le_of_ble_eq_true rfl) dL_law_804 ⟨Nat.le_of_ble_eq_true rfl, Nat.le_of_ble_eq_true rfl⟩ ⟨by have := hc.1; show ck + 0 ≤ 601024; omega, by have := hc.2; show sk + 0 ≤ 7293034; omega⟩ ?_
  refine mm_pop dL_law_807 rfl ?_
  refine mm_aload_n (j := 2) dL_law_808 rfl rfl ?_
  refine mm_callVi cd_ok (kX9_cues o9 hf9) h9 rfl (Or.inl tw_1126) cdX9_cues tw_1127 tw_1128 nmX9_cues rfl rfl (by simp only [List.map_cons, List.map_nil, mm_rf_cat]; exact Nat.le_of_ble_eq_true rfl) dL_law_809 ⟨Nat.le_of_ble_eq_true rfl, Nat.le_of_ble_eq_true rfl⟩ ⟨by have := hc.1; show ck + 0 + 0 ≤ 601024; omega, by have := hc.2; show sk + 0 + 0 ≤ 7293034; omega⟩ ?_
  refine mm_pop dL_law_812 rfl ?_
  refine mm_goto (tgt := 896) dL_law_813 (by decide) ?_
  refine mm_sub [0, 1, 2, 3, 4] rfl ?_
  refine mm_widen (ck' := ck + 0) (sk' := sk + 0) (by show ck + 0 + 0 ≤ ck + 0; omega) (by show sk + 0 + 0 ≤ sk + 0; omega) ?_
  exact kk _ hN
set_option maxHeartbeats 4000000 in
set_option maxRecDepth 100000 in
theorem bL_cue {G : mm_G} {A : Nat → Prop} {b L o8 o9 out : Nat} {xs : Nat → Int32} {i : Int32} {σ : mm_M} {ck sk : Nat} {N : mm_M → Prop} {X : Option Int32 × mm_M → Int32 × mm_M → Prop} (hi : 0 ≤ i.toInt ∧ i.toInt + 6 ≤ L ∧ L ≤ 4000) (hc : ck + 1 ≤ 601024 ∧ sk + 6 ≤ 7293034) (h8 : σ.2.1 o8 = some (.inl 8)) (hst : lw_stepG (fun τ => fX8_cue o8 (xs (i + 1).toNatClampNeg) (xs (i + 2).toNatClampNeg) τ) (fun τ => fX9_cue o9 (xs (i + 1).toNatClampNeg) (xs (i + 2).toNatClampNeg) τ) o9 out σ N X) (kk : ∀ σ', N σ' → JL G A b L xs 896 [(0, .ref b), (1, .ref o8), (2, .ref o9), (3, .ref out), (4, .int i)] [] σ' (ck + 1) (sk + 6)) : JL G A b L xs 816 [(0, .ref b), (1, .ref o8), (2, .ref o9), (3, .ref out), (4, .int i)] [] σ ck sk := by
  refine mm_aload_n (j := 1) dL_law_816 rfl rfl ?_
  refine mm_aload_n (j := 0) dL_law_817 rfl rfl ?_
  refine mm_iload (j := 4) dL_law_818 rfl ?_
  refine mm_iconst (v := 1) dL_law_820 (by decide) ?_
  refine mm_iadd dL_law_821 ?_
  refine lw_sld (lw_in hi (by decide)) dL_law_822 ?_
  refine mm_aload_n (j := 0) dL_law_823 rfl rfl ?_
  refine mm_iload (j := 4) dL_law_824 rfl ?_
  refine mm_iconst (v := 2) dL_law_826 (by decide) ?_
  refine mm_iadd dL_law_827 ?_
  refine lw_sld (lw_in hi (by decide)) dL_law_828 ?_
  refine mm_aload_n (j := 3) dL_law_829 rfl rfl ?_
  obtain ⟨Rr, hf8, hso, hs0, hs1⟩ := hst
  refine lw_callH (kL_cue o8 (xs (i + 1).toNatClampNeg) (xs (i + 2).toNatClampNeg) out hf8 h8 hso (by decide)) tw_772 tw_774 tw_0 tw_773 nmL_cue rfl rfl (by simp only [List.map_cons, List.map_nil, mm_rf_cat]; exact Nat.le_of_ble_eq_true rfl) dL_law_830 ⟨Nat.le_of_ble_eq_true rfl, Nat.le_of_ble_eq_true rfl⟩ ⟨by have := hc.1; show ck + 1 ≤ 601024; omega, by have := hc.2; show sk + 6 ≤ 7293034; omega⟩ (fun r hr => ?_) (fun hr z => ?_)
  · obtain ⟨h9, R9, hf9, h9b, hso9, hlo, hN, -⟩ := hs0 r hr
    refine mm_istore (L' := [(5, .int 0), (0, .ref b), (1, .ref o8), (2, .ref o9), (3, .ref out), (4, .int i)]) dL_law_833 (by decide) rfl ?_
    refine mm_aload_n (j := 3) dL_law_835 rfl rfl ?_
    refine mm_aload_n (j := 1) dL_law_836 rfl rfl ?_
    refine mm_iload (j := 5) dL_law_837 rfl ?_
    refine mm_iconst (v := 1) dL_law_839 (by decide) ?_
    refine mm_iadd dL_law_840 ?_
    refine lw_sld (lw_in hi (by decide)) dL_law_841 ?_
    refine mm_aload_n (j := 1) dL_law_842 rfl rfl ?_
    refine mm_iload (j := 5) dL_law_843 rfl ?_
    refine mm_iconst (v := 2) dL_law_845 (by decide) ?_
    refine mm_iadd dL_law_846 ?_
    refine lw_sld (lw_in hi (by decide)) dL_law_847 ?_
    refine mm_callVi cd_ok (kX9_cue o9 (xs (i + 1).toNatClampNeg) (xs (i + 2).toNatClampNeg) hf9) h9 rfl (Or.inl tw_1130) cdX9_cue tw_1131 tw_1132 nmX9_cue rfl rfl (by simp only [List.map_cons, List.map_nil, mm_rf_cat]; exact Nat.le_of_ble_eq_true rfl) dL_law_848 ⟨Nat.le_of_ble_eq_true rfl, Nat.le_of_ble_eq_true rfl⟩ ⟨by have := hc.1; show ck + 1 + 0 ≤ 601024; omega, by have := hc.2; show sk + 6 + 0 ≤ 7293034; omega⟩ ?_
    refine mm_istore (L' := [(6, .int R9.1), (5, .int 0), (0, .ref b), (1, .ref o8), (2, .ref o9), (3, .ref out), (4, .int i)]) dL_law_851 (by decide) rfl ?_
    refine mm_goto (tgt := 896) dL_law_853 (by decide) ?_
    refine mm_sub [2, 3, 4, 5, 6] rfl ?_
    refine mm_widen (ck' := ck + 1) (sk' := sk + 6) (by show ck + 1 + 0 ≤ ck + 1; omega) (by show sk + 6 + 0 ≤ sk + 6; omega) ?_
    exact kk _ hN
  · refine lw_lt (fun hlt => ?_)
    obtain ⟨h9, R9, hf9, h9b, hN, -⟩ := hs1 hr z hlt
    refine mm_istore (L' := [(5, .int 1), (0, .ref b), (1, .ref o8), (2, .ref o9), (3, .ref out), (4, .int i)]) dL_law_833 (by decide) rfl ?_
    refine mm_aload_n (j := 3) dL_law_835 rfl rfl ?_
    refine mm_aload_n (j := 1) dL_law_836 rfl rfl ?_
    refine mm_iload (j := 5) dL_law_837 rfl ?_
    refine mm_iconst (v := 1) dL_law_839 (by decide) ?_
    refine mm_iadd dL_law_840 ?_
    refine lw_sld (lw_in hi (by decide)) dL_law_841 ?_
    refine mm_aload_n (j := 1) dL_law_842 rfl rfl ?_
    refine mm_iload (j := 5) dL_law_843 rfl ?_
    refine mm_iconst (v := 2) dL_law_845 (by decide) ?_
    refine mm_iadd dL_law_846 ?_
    refine lw_sld (lw_in hi (by decide)) dL_law_847 ?_
    refine mm_callVi cd_ok (kX9_cue o9 (xs (i + 1).toNatClampNeg) (xs (i + 2).toNatClampNeg) hf9) h9 rfl (Or.inl tw_1130) cdX9_cue tw_1131 tw_1132 nmX9_cue rfl rfl (by simp only [List.map_cons, List.map_nil, mm_rf_cat]; exact Nat.le_of_ble_eq_true rfl) dL_law_848 ⟨Nat.le_of_ble_eq_true rfl, Nat.le_of_ble_eq_true rfl⟩ ⟨by have := hc.1; show ck + 1 + 0 ≤ 601024; omega, by have := hc.2; show sk + 6 + 0 ≤ 7293034; omega⟩ ?_
    refine mm_istore (L' := [(6, .int R9.1), (5, .int 1), (0, .ref b), (1, .ref o8), (2, .ref o9), (3, .ref out), (4, .int i)]) dL_law_851 (by decide) rfl ?_
    refine mm_goto (tgt := 896) dL_law_853 (by decide) ?_
    refine mm_sub [2, 3, 4, 5, 6] rfl ?_
    refine mm_widen (ck' := ck + 1) (sk' := sk + 6) (by show ck + 1 + 0 ≤ ck + 1; omega) (by show sk + 6 + 0 ≤ sk + 6; omega) ?_
    exact kk _ hN
set_option maxHeartbeats 4000000 in
set_option maxRecDepth 100000 in
theorem bL_line {G : mm_G} {A : Nat → Prop} {b L o8 o9 out : Nat} {xs : Nat → Int32} {i : Int32} {σ : mm_M} {ck sk : Nat} {N : mm_M → Prop} {X : Option Int32 × mm_M → Int32 × mm_M → Prop} (hi : 0 ≤ i.toInt ∧ i.toInt + 6 ≤ L ∧ L ≤ 4000) (hc : ck + 1 ≤ 601024 ∧ sk + 6 ≤ 7293034) (h8 : σ.2.1 o8 = some (.inl 8)) (hst : lw_stepG (fun τ => fX8_line o8 (xs (i + 1).toNatClampNeg) (xs (i + 2).toNatClampNeg) τ) (fun τ => fX9_line o9 (xs (i + 1).toNatClampNeg) (xs (i + 2).toNatClampNeg) τ) o9 out σ N X) (kk : ∀ σ', N σ' → JL G A b L xs 896 [(0, .ref b), (1, .ref o8), (2, .ref o9), (3, .ref out), (4, .int i)] [] σ' (ck + 1) (sk + 6)) : JL G A b L xs 856 [(0, .ref b), (1, .ref o8), (2, .ref o9), (3, .ref out), (4, .int i)] [] σ ck sk := by
  refine mm_aload_n (j := 1) dL_law_856 rfl rfl ?_
  refine mm_aload_n (j := 0) dL_law_857 rfl rfl ?_
  refine mm_iload (j := 4) dL_law_858 rfl ?_
  refine mm_iconst (v := 1) dL_law_860 (by decide) ?_
  refine mm_iadd dL_law_861 ?_
  refine lw_sld (lw_in hi (by decide)) dL_law_862 ?_
  refine mm_aload_n (j := 0) dL_law_863 rfl rfl ?_
  refine mm_iload (j := 4) dL_law_864 rfl ?_
  refine mm_iconst (v := 2) dL_law_866 (by decide) ?_
  refine mm_iadd dL_law_867 ?_
  refine lw_sld (lw_in hi (by decide)) dL_law_868 ?_
  refine mm_aload_n (j := 3) dL_law_869 rfl rfl ?_
  obtain ⟨Rr, hf8, hso, hs0, hs1⟩ := hst
  refine lw_callH (kL_line o8 (xs (i + 1).toNatClampNeg) (xs (i + 2).toNatClampNeg) out hf8 h8 hso (by decide)) tw_780 tw_782 tw_0 tw_781 nmL_line rfl rfl (by simp only [List.map_cons, List.map_nil, mm_rf_cat]; exact Nat.le_of_ble_eq_true rfl) dL_law_870 ⟨Nat.le_of_ble_eq_true rfl, Nat.le_of_ble_eq_true rfl⟩ ⟨by have := hc.1; show ck + 1 ≤ 601024; omega, by have := hc.2; show sk + 6 ≤ 7293034; omega⟩ (fun r hr => ?_) (fun hr z => ?_)
  · obtain ⟨h9, R9, hf9, h9b, hso9, hlo, hN, -⟩ := hs0 r hr
    refine mm_istore (L' := [(5, .int 0), (0, .ref b), (1, .ref o8), (2, .ref o9), (3, .ref out), (4, .int i)]) dL_law_873 (by decide) rfl ?_
    refine mm_aload_n (j := 3) dL_law_875 rfl rfl ?_
    refine mm_aload_n (j := 1) dL_law_876 rfl rfl ?_
    refine mm_iload (j := 5) dL_law_877 rfl ?_
    refine mm_iconst (v := 1) dL_law_879 (by decide) ?_
    refine mm_iadd dL_law_880 ?_
    refine lw_sld (lw_in hi (by decide)) dL_law_881 ?_
    refine mm_aload_n (j := 1) dL_law_882 rfl rfl ?_
    refine mm_iload (j := 5) dL_law_883 rfl ?_
    refine mm_iconst (v := 2) dL_law_885 (by decide) ?_
    refine mm_iadd dL_law_886 ?_
    refine lw_sld (lw_in hi (by decide)) dL_law_887 ?_
    refine mm_callVi cd_ok (kX9_line o9 (xs (i + 1).toNatClampNeg) (xs (i + 2).toNatClampNeg) hf9) h9 rfl (Or.inl tw_1134) cdX9_line tw_1135 tw_1136 nmX9_line rfl rfl (by simp only [List.map_cons, List.map_nil, mm_rf_cat]; exact Nat.le_of_ble_eq_true rfl) dL_law_888 ⟨Nat.le_of_ble_eq_true rfl, Nat.le_of_ble_eq_true rfl⟩ ⟨by have := hc.1; show ck + 1 + 0 ≤ 601024; omega, by have := hc.2; show sk + 6 + 0 ≤ 7293034; omega⟩ ?_
    refine mm_istore (L' := [(6, .int R9.1), (5, .int 0), (0, .ref b), (1, .ref o8), (2, .ref o9), (3, .ref out), (4, .int i)]) dL_law_891 (by decide) rfl ?_
    refine mm_goto (tgt := 896) dL_law_893 (by decide) ?_
    refine mm_sub [2, 3, 4, 5, 6] rfl ?_
    refine mm_widen (ck' := ck + 1) (sk' := sk + 6) (by show ck + 1 + 0 ≤ ck + 1; omega) (by show sk + 6 + 0 ≤ sk + 6; omega) ?_
    exact kk _ hN
  · refine lw_lt (fun hlt => ?_)
    obtain ⟨h9, R9, hf9, h9b, hN, -⟩ := hs1 hr z hlt
    refine mm_istore (L' := [(5, .int 1), (0, .ref b), (1, .ref o8), (2, .ref o9), (3, .ref out), (4, .int i)]) dL_law_873 (by decide) rfl ?_
    refine mm_aload_n (j := 3) dL_law_875 rfl rfl ?_
    refine mm_aload_n (j := 1) dL_law_876 rfl rfl ?_
    refine mm_iload (j := 5) dL_law_877 rfl ?_
    refine mm_iconst (v := 1) dL_law_879 (by decide) ?_
    refine mm_iadd dL_law_880 ?_
    refine lw_sld (lw_in hi (by decide)) dL_law_881 ?_
    refine mm_aload_n (j := 1) dL_law_882 rfl rfl ?_
    refine mm_iload (j := 5) dL_law_883 rfl ?_
    refine mm_iconst (v := 2) dL_law_885 (by decide) ?_
    refine mm_iadd dL_law_886 ?_
    refine lw_sld (lw_in hi (by decide)) dL_law_887 ?_
    refine mm_callVi cd_ok (kX9_line o9 (xs (i + 1).toNatClampNeg) (xs (i + 2).toNatClampNeg) hf9) h9 rfl (Or.inl tw_1134) cdX9_line tw_1135 tw_1136 nmX9_line rfl rfl (by simp only [List.map_cons, List.map_nil, mm_rf_cat]; exact Nat.le_of_ble_eq_true rfl) dL_law_888 ⟨Nat.le_of_ble_eq_true rfl, Nat.le_of_ble_eq_true rfl⟩ ⟨by have := hc.1; show ck + 1 + 0 ≤ 601024; omega, by have := hc.2; show sk + 6 + 0 ≤ 7293034; omega⟩ ?_
    refine mm_istore (L' := [(6, .int R9.1), (5, .int 1), (0, .ref b), (1, .ref o8), (2, .ref o9), (3, .ref out), (4, .int i)]) dL_law_891 (by decide) rfl ?_
    refine mm_goto (tgt := 896) dL_law_893 (by decide) ?_
    refine mm_sub [2, 3, 4, 5, 6] rfl ?_
    refine mm_widen (ck' := ck + 1) (sk' := sk + 6) (by show ck + 1 + 0 ≤ ck + 1; omega) (by show sk + 6 + 0 ≤ sk + 6; omega) ?_
    exact kk _ hN
