set_option maxHeartbeats 4000000 in
set_option maxRecDepth 10000 in
theorem uX9_pair_f0 {T : Nat → Option Nat} {σ0 : mm_M} {p0 : Nat} {p2 : Int32} {p3 : Int32} (c0 : sCI T σ0) (t_p0 : T p0 = some 9) : sw (fX9_pair p0 (0 : Int32) p2 p3 σ0) (fun R => sCI T R.2 ∧ sFR T UX9_pair_f0 σ0 R.2 ∧ ((mm_I R.2 p0 0).toInt = 0 ∧ ((rdA R.2 p0 9 1).toInt = (rdA σ0 p0 9 1).toInt ∧ (rdA R.2 p0 10 1).toInt = (rdA σ0 p0 10 1).toInt) ∧ ((¬ ((fX8_isRight p2).toInt ≠ 0 ∧ 16 ≤ (p2 &&& 127).toInt ∧ (p2 &&& 127).toInt ≤ 31 ∧ (fX8_isRight p3).toInt ≠ 0 ∧ 32 ≤ (p3 &&& 127).toInt) ∧ (rdA R.2 p0 10 0).toInt = -1 ∧ (rdA R.2 p0 9 0).toInt = (rdA σ0 p0 9 0).toInt ∧ ((((0 ≤ (rdA σ0 p0 9 0).toInt ∧ (rdA σ0 p0 9 0).toInt ≤ 3) ∧ (fX8_isRight p2).toInt ≠ 0 ∧ (32 ≤ (p2 &&& 127).toInt ∨ ((p2 &&& 127).toInt = 0 ∧ (fX8_isRight p3).toInt ≠ 0 ∧ 32 ≤ (p3 &&& 127).toInt))) ∧ R.1.toInt = 9) ∨ (¬ ((0 ≤ (rdA σ0 p0 9 0).toInt ∧ (rdA σ0 p0 9 0).toInt ≤ 3) ∧ (fX8_isRight p2).toInt ≠ 0 ∧ (32 ≤ (p2 &&& 127).toInt ∨ ((p2 &&& 127).toInt = 0 ∧ (fX8_isRight p3).toInt ≠ 0 ∧ 32 ≤ (p3 &&& 127).toInt))) ∧ R.1.toInt = -1))) ∨ (((fX8_isRight p2).toInt ≠ 0 ∧ 16 ≤ (p2 &&& 127).toInt ∧ (p2 &&& 127).toInt ≤ 31 ∧ (fX8_isRight p3).toInt ≠ 0 ∧ 32 ≤ (p3 &&& 127).toInt) ∧ (rdA σ0 p0 10 0).toInt = 128 * (p2 &&& 127).toInt + (p3 &&& 127).toInt ∧ (rdA R.2 p0 10 0).toInt = -1 ∧ (rdA R.2 p0 9 0).toInt = (rdA σ0 p0 9 0).toInt ∧ R.1.toInt = 8) ∨ (((fX8_isRight p2).toInt ≠ 0 ∧ 16 ≤ (p2 &&& 127).toInt ∧ (p2 &&& 127).toInt ≤ 31 ∧ (fX8_isRight p3).toInt ≠ 0 ∧ 32 ≤ (p3 &&& 127).toInt) ∧ (rdA σ0 p0 10 0).toInt ≠ 128 * (p2 &&& 127).toInt + (p3 &&& 127).toInt ∧ (rdA R.2 p0 10 0).toInt = 128 * (p2 &&& 127).toInt + (p3 &&& 127).toInt ∧ (((p2 &&& 8).toInt = 0 ∧ (rdA R.2 p0 9 0).toInt = 0) ∨ ((p2 &&& 8).toInt ≠ 0 ∧ (rdA R.2 p0 9 0).toInt = 1)) ∧ R.1.toInt = (rdA R.2 p0 9 0).toInt)))) := by
  have f0 : sFR T UX9_pair_f0 σ0 σ0 := fr_refl
  unfold fX9_pair
  refine sw_sh (ci_sh c0 t_p0 rfl) ?_
  have u5318 := su_in ((0 : Int32)) 0 1
  refine sw_on (vX9_goes c0 t_p0 (by (try simp only [zp, zo, zq] at u5318 ⊢) <;> (try simp only [zz, Int32.reduceToInt, ne_eq] at u5318 ⊢) <;> (try simp (disch := omega) only [zb] at u5318 ⊢) <;> first | omega | ((try simp (disch := omega) only [zb] at u5318 ⊢) <;> omega)) ) ?_
  intro q2 hqq2
  obtain ⟨cq2, gq2, xq2⟩ := hqq2
  have fq2 := fr_trans f0 gq2 rfl
  refine sw_ite (fun h5319 => ?_) (fun h5319 => ?_)
  · have w5321 := rdA_fr (k := 9) (j := 1) gq2 c0 t_p0 (κ' := 59) rfl rfl rfl
    have w5323 := rdA_fr (k := 10) (j := 1) gq2 c0 t_p0 (κ' := 60) rfl rfl rfl
    have w5325 := rdA_fr (k := 10) (j := 0) gq2 c0 t_p0 (κ' := 60) rfl rfl rfl
    have w5327 := rdA_fr (k := 9) (j := 0) gq2 c0 t_p0 (κ' := 59) rfl rfl rfl
    have a5329 := zi_and p2 127 (by decide)
    have a5330 := zi_and p3 127 (by decide)
    have a5331 := zi_and p2 8 (by decide)
    exact sw_some ⟨cq2, fq2, (by (try simp only [zp, zo, zq] at u5318 xq2 h5319 w5321 w5323 w5325 w5327 a5329 a5330 a5331 ⊢) <;> (try simp only [zz, Int32.reduceToInt, ne_eq] at u5318 xq2 h5319 w5321 w5323 w5325 w5327 a5329 a5330 a5331 ⊢) <;> (try simp (disch := omega) only [zb] at u5318 xq2 h5319 w5321 w5323 w5325 w5327 a5329 a5330 a5331 ⊢) <;> first | omega | ((try simp (disch := omega) only [zb] at u5318 xq2 h5319 w5321 w5323 w5325 w5327 a5329 a5330 a5331 ⊢) <;> omega))⟩
  · refine sw_sh (ci_sh cq2 t_p0 rfl) ?_
    obtain ⟨q5, eq5, tq5⟩ := ci_ref cq2 t_p0 10 (κ' := 60) rfl
    refine sw_onS eq5 ?_
    refine sw_ar (ci_sh cq2 tq5 rfl) ?_
    refine sw_ib (by (try simp only [zp, zo, zq] at u5318 xq2 h5319 ⊢) <;> (try simp only [zz, Int32.reduceToInt, ne_eq] at u5318 xq2 h5319 ⊢) <;> (try simp (disch := omega) only [zb] at u5318 xq2 h5319 ⊢) <;> first | omega | ((try simp (disch := omega) only [zb] at u5318 xq2 h5319 ⊢) <;> omega)) ?_
    refine sw_onS eq5 ?_
    refine sw_ar (ci_sh cq2 tq5 rfl) ?_
    refine sw_ib (by (try simp only [zp, zo, zq] at u5318 xq2 h5319 ⊢) <;> (try simp only [zz, Int32.reduceToInt, ne_eq] at u5318 xq2 h5319 ⊢) <;> (try simp (disch := omega) only [zb] at u5318 xq2 h5319 ⊢) <;> first | omega | ((try simp (disch := omega) only [zb] at u5318 xq2 h5319 ⊢) <;> omega)) ?_
    have cs11 := ci_wI cq2 tq5 (j := (0 : Int32).toNatClampNeg) (v := -1) (kr_n rfl)
    have fs11 := fr_wI fq2 tq5 (j := (0 : Int32).toNatClampNeg) (v := -1) rfl
    refine sw_let (fun s11 es11 => ?_)
    rw [es11] at cs11 fs11
    refine sw_on (vX9_isOdd cs11   ) ?_
    intro q12 hqq12
    obtain ⟨eq12, xq12⟩ := hqq12
    (try rw [eq12])
    refine sw_ite (fun h5332 => ?_) (fun h5332 => ?_)
    · have w5333 : mm_I s11 p0 0 = mm_I q2.2 p0 0 := by rw [← es11]; exact rd_k t_p0 tq5 (by decide)
      have w5335 : rdA s11 p0 9 1 = rdA q2.2 p0 9 1 := by rw [← es11]; exact rdA_k cq2 t_p0 (κ' := 59) rfl tq5 (by decide)
      have w5336 := rdA_fr (k := 9) (j := 1) gq2 c0 t_p0 (κ' := 59) rfl rfl rfl
      have w5338 : rdA s11 p0 10 1 = rdA q2.2 p0 10 1 := by rw [← es11]; exact rdA_j (by decide)
      have w5340 : rdA q2.2 p0 10 1 = mm_I q2.2 q5 ((1 : Int32)).toNatClampNeg := rdA_eq eq5
      have w5339 := rdA_fr (k := 10) (j := 1) gq2 c0 t_p0 (κ' := 60) rfl rfl rfl
      have w5342 : rdA s11 p0 10 0 = -1 := by rw [← es11]; exact rdA_self eq5
      have w5343 : rdA s11 p0 9 0 = rdA q2.2 p0 9 0 := by rw [← es11]; exact rdA_k cq2 t_p0 (κ' := 59) rfl tq5 (by decide)
      have w5344 := rdA_fr (k := 9) (j := 0) gq2 c0 t_p0 (κ' := 59) rfl rfl rfl
      have w5348 : rdA q2.2 p0 10 0 = mm_I q2.2 q5 ((0 : Int32)).toNatClampNeg := rdA_eq eq5
      have w5347 := rdA_fr (k := 10) (j := 0) gq2 c0 t_p0 (κ' := 60) rfl rfl rfl
      have a5349 := zi_and p2 127 (by decide)
      have a5350 := zi_and p3 127 (by decide)
      have a5351 := zi_and p2 8 (by decide)
      exact sw_some ⟨cs11, fs11, (by (try simp only [zp, zo, zq] at u5318 xq2 h5319 xq12 h5332 w5333 w5335 w5336 w5338 w5340 w5339 w5342 w5343 w5344 w5348 w5347 a5349 a5350 a5351 ⊢) <;> (try simp only [zz, Int32.reduceToInt, ne_eq] at u5318 xq2 h5319 xq12 h5332 w5333 w5335 w5336 w5338 w5340 w5339 w5342 w5343 w5344 w5348 w5347 a5349 a5350 a5351 ⊢) <;> (try simp (disch := omega) only [zb] at u5318 xq2 h5319 xq12 h5332 w5333 w5335 w5336 w5338 w5340 w5339 w5342 w5343 w5344 w5348 w5347 a5349 a5350 a5351 ⊢) <;> first | omega | ((try simp (disch := omega) only [zb] at u5318 xq2 h5319 xq12 h5332 w5333 w5335 w5336 w5338 w5340 w5339 w5342 w5343 w5344 w5348 w5347 a5349 a5350 a5351 ⊢) <;> omega))⟩
    · refine sw_on (vX9_isOdd cs11   ) ?_
      intro q14 hqq14
      obtain ⟨eq14, xq14⟩ := hqq14
      (try rw [eq14])
      have a5352 := zi_and p2 127 (by decide)
      have u5353 := su_in (p2 &&& 127) 16 31
      refine sw_ite (fun h5354 => ?_) (fun h5354 => ?_)
      · refine sw_sh (ci_sh cs11 t_p0 rfl) ?_
        obtain ⟨q17, eq17, tq17⟩ := ci_ref cs11 t_p0 9 (κ' := 59) rfl
        refine sw_onS eq17 ?_
        refine sw_ar (ci_sh cs11 tq17 rfl) ?_
        refine sw_ib (by (try simp only [zp, zo, zq] at u5318 xq2 h5319 xq12 h5332 xq14 a5352 u5353 h5354 ⊢) <;> (try simp only [zz, Int32.reduceToInt, ne_eq] at u5318 xq2 h5319 xq12 h5332 xq14 a5352 u5353 h5354 ⊢) <;> (try simp (disch := omega) only [zb] at u5318 xq2 h5319 xq12 h5332 xq14 a5352 u5353 h5354 ⊢) <;> first | omega | ((try simp (disch := omega) only [zb] at u5318 xq2 h5319 xq12 h5332 xq14 a5352 u5353 h5354 ⊢) <;> omega)) ?_
        refine sw_ite (fun h5355 => ?_) (fun h5355 => ?_)
        · unfold fX9_pair_179
          refine sw_ite (fun h5356 => ?_) (fun h5356 => ?_)
          · unfold fX9_pair_198
            refine sw_ite (fun h5357 => ?_) (fun h5357 => ?_)
            · unfold fX9_pair_227
              unfold fX9_pair_228
              have w5358 : mm_I s11 q17 ((0 : Int32).toNatClampNeg) = mm_I q2.2 q17 ((0 : Int32).toNatClampNeg) := by rw [← es11]; exact rd_k tq17 tq5 (by decide)
              have w5359 := (gq2.2.2 _ _ tq17 ((0 : Int32).toNatClampNeg) rfl).1
              have r5360 := ci_rg c0 tq17 ((0 : Int32).toNatClampNeg) (lo := (-1)) (hi := 3) rfl
              have r5361 := ci_rg cq2 tq17 ((0 : Int32).toNatClampNeg) (lo := (-1)) (hi := 3) rfl
              have r5362 := ci_rg cs11 tq17 ((0 : Int32).toNatClampNeg) (lo := (-1)) (hi := 3) rfl
              refine sw_ite (fun h5363 => ?_) (fun h5363 => ?_)
              · have w5364 : mm_I s11 p0 0 = mm_I q2.2 p0 0 := by rw [← es11]; exact rd_k t_p0 tq5 (by decide)
                have w5367 : rdA s11 p0 9 1 = mm_I s11 q17 ((1 : Int32)).toNatClampNeg := rdA_eq eq17
                have w5366 : rdA s11 p0 9 1 = rdA q2.2 p0 9 1 := by rw [← es11]; exact rdA_k cq2 t_p0 (κ' := 59) rfl tq5 (by decide)
                have w5368 := rdA_fr (k := 9) (j := 1) gq2 c0 t_p0 (κ' := 59) rfl rfl rfl
                have w5370 : rdA s11 p0 10 1 = rdA q2.2 p0 10 1 := by rw [← es11]; exact rdA_j (by decide)
                have w5372 : rdA q2.2 p0 10 1 = mm_I q2.2 q5 ((1 : Int32)).toNatClampNeg := rdA_eq eq5
                have w5371 := rdA_fr (k := 10) (j := 1) gq2 c0 t_p0 (κ' := 60) rfl rfl rfl
                have w5374 : rdA s11 p0 10 0 = -1 := by rw [← es11]; exact rdA_self eq5
                have w5376 : rdA s11 p0 9 0 = mm_I s11 q17 ((0 : Int32)).toNatClampNeg := rdA_eq eq17
                have w5375 : rdA s11 p0 9 0 = rdA q2.2 p0 9 0 := by rw [← es11]; exact rdA_k cq2 t_p0 (κ' := 59) rfl tq5 (by decide)
                have w5377 := rdA_fr (k := 9) (j := 0) gq2 c0 t_p0 (κ' := 59) rfl rfl rfl
                have w5381 : rdA q2.2 p0 10 0 = mm_I q2.2 q5 ((0 : Int32)).toNatClampNeg := rdA_eq eq5
                have w5380 := rdA_fr (k := 10) (j := 0) gq2 c0 t_p0 (κ' := 60) rfl rfl rfl
                have a5382 := zi_and p3 127 (by decide)
                have a5383 := zi_and p2 8 (by decide)
                exact sw_some ⟨cs11, fs11, (by (try simp only [zp, zo, zq] at u5318 xq2 h5319 xq12 h5332 xq14 a5352 u5353 h5354 h5355 h5356 h5357 w5358 w5359 r5360 r5361 r5362 h5363 w5364 w5367 w5366 w5368 w5370 w5372 w5371 w5374 w5376 w5375 w5377 w5381 w5380 a5382 a5383 ⊢) <;> (try simp only [zz, Int32.reduceToInt, ne_eq] at u5318 xq2 h5319 xq12 h5332 xq14 a5352 u5353 h5354 h5355 h5356 h5357 w5358 w5359 r5360 r5361 r5362 h5363 w5364 w5367 w5366 w5368 w5370 w5372 w5371 w5374 w5376 w5375 w5377 w5381 w5380 a5382 a5383 ⊢) <;> (try simp (disch := omega) only [zb] at u5318 xq2 h5319 xq12 h5332 xq14 a5352 u5353 h5354 h5355 h5356 h5357 w5358 w5359 r5360 r5361 r5362 h5363 w5364 w5367 w5366 w5368 w5370 w5372 w5371 w5374 w5376 w5375 w5377 w5381 w5380 a5382 a5383 ⊢) <;> first | omega | ((try simp (disch := omega) only [zb] at u5318 xq2 h5319 xq12 h5332 xq14 a5352 u5353 h5354 h5355 h5356 h5357 w5358 w5359 r5360 r5361 r5362 h5363 w5364 w5367 w5366 w5368 w5370 w5372 w5371 w5374 w5376 w5375 w5377 w5381 w5380 a5382 a5383 ⊢) <;> omega))⟩
              · refine sw_ite (fun h5384 => ?_) (fun h5384 => ?_)
                · refine sw_ite (fun h5385 => ?_) (fun h5385 => ?_)
                  · have w5386 : mm_I s11 p0 0 = mm_I q2.2 p0 0 := by rw [← es11]; exact rd_k t_p0 tq5 (by decide)
                    have w5389 : rdA s11 p0 9 1 = mm_I s11 q17 ((1 : Int32)).toNatClampNeg := rdA_eq eq17
                    have w5388 : rdA s11 p0 9 1 = rdA q2.2 p0 9 1 := by rw [← es11]; exact rdA_k cq2 t_p0 (κ' := 59) rfl tq5 (by decide)
                    have w5390 := rdA_fr (k := 9) (j := 1) gq2 c0 t_p0 (κ' := 59) rfl rfl rfl
                    have w5392 : rdA s11 p0 10 1 = rdA q2.2 p0 10 1 := by rw [← es11]; exact rdA_j (by decide)
                    have w5394 : rdA q2.2 p0 10 1 = mm_I q2.2 q5 ((1 : Int32)).toNatClampNeg := rdA_eq eq5
                    have w5393 := rdA_fr (k := 10) (j := 1) gq2 c0 t_p0 (κ' := 60) rfl rfl rfl
                    have w5396 : rdA s11 p0 10 0 = -1 := by rw [← es11]; exact rdA_self eq5
                    have w5398 : rdA s11 p0 9 0 = mm_I s11 q17 ((0 : Int32)).toNatClampNeg := rdA_eq eq17
                    have w5397 : rdA s11 p0 9 0 = rdA q2.2 p0 9 0 := by rw [← es11]; exact rdA_k cq2 t_p0 (κ' := 59) rfl tq5 (by decide)
                    have w5399 := rdA_fr (k := 9) (j := 0) gq2 c0 t_p0 (κ' := 59) rfl rfl rfl
                    have w5403 : rdA q2.2 p0 10 0 = mm_I q2.2 q5 ((0 : Int32)).toNatClampNeg := rdA_eq eq5
                    have w5402 := rdA_fr (k := 10) (j := 0) gq2 c0 t_p0 (κ' := 60) rfl rfl rfl
                    have a5404 := zi_and p3 127 (by decide)
                    have a5405 := zi_and p2 8 (by decide)
                    exact sw_some ⟨cs11, fs11, (by (try simp only [zp, zo, zq] at u5318 xq2 h5319 xq12 h5332 xq14 a5352 u5353 h5354 h5355 h5356 h5357 w5358 w5359 r5360 r5361 r5362 h5363 h5384 h5385 w5386 w5389 w5388 w5390 w5392 w5394 w5393 w5396 w5398 w5397 w5399 w5403 w5402 a5404 a5405 ⊢) <;> (try simp only [zz, Int32.reduceToInt, ne_eq] at u5318 xq2 h5319 xq12 h5332 xq14 a5352 u5353 h5354 h5355 h5356 h5357 w5358 w5359 r5360 r5361 r5362 h5363 h5384 h5385 w5386 w5389 w5388 w5390 w5392 w5394 w5393 w5396 w5398 w5397 w5399 w5403 w5402 a5404 a5405 ⊢) <;> (try simp (disch := omega) only [zb] at u5318 xq2 h5319 xq12 h5332 xq14 a5352 u5353 h5354 h5355 h5356 h5357 w5358 w5359 r5360 r5361 r5362 h5363 h5384 h5385 w5386 w5389 w5388 w5390 w5392 w5394 w5393 w5396 w5398 w5397 w5399 w5403 w5402 a5404 a5405 ⊢) <;> first | omega | ((try simp (disch := omega) only [zb] at u5318 xq2 h5319 xq12 h5332 xq14 a5352 u5353 h5354 h5355 h5356 h5357 w5358 w5359 r5360 r5361 r5362 h5363 h5384 h5385 w5386 w5389 w5388 w5390 w5392 w5394 w5393 w5396 w5398 w5397 w5399 w5403 w5402 a5404 a5405 ⊢) <;> omega))⟩
                  · unfold fX9_pair_250
                    refine sw_ite (fun h5406 => ?_) (fun h5406 => ?_)
                    · unfold fX9_pair_264
                      refine sw_ite (fun h5407 => ?_) (fun h5407 => ?_)
                      · have w5408 : mm_I s11 p0 0 = mm_I q2.2 p0 0 := by rw [← es11]; exact rd_k t_p0 tq5 (by decide)
                        have w5411 : rdA s11 p0 9 1 = mm_I s11 q17 ((1 : Int32)).toNatClampNeg := rdA_eq eq17
                        have w5410 : rdA s11 p0 9 1 = rdA q2.2 p0 9 1 := by rw [← es11]; exact rdA_k cq2 t_p0 (κ' := 59) rfl tq5 (by decide)
                        have w5412 := rdA_fr (k := 9) (j := 1) gq2 c0 t_p0 (κ' := 59) rfl rfl rfl
                        have w5414 : rdA s11 p0 10 1 = rdA q2.2 p0 10 1 := by rw [← es11]; exact rdA_j (by decide)
                        have w5416 : rdA q2.2 p0 10 1 = mm_I q2.2 q5 ((1 : Int32)).toNatClampNeg := rdA_eq eq5
                        have w5415 := rdA_fr (k := 10) (j := 1) gq2 c0 t_p0 (κ' := 60) rfl rfl rfl
                        have w5418 : rdA s11 p0 10 0 = -1 := by rw [← es11]; exact rdA_self eq5
                        have w5420 : rdA s11 p0 9 0 = mm_I s11 q17 ((0 : Int32)).toNatClampNeg := rdA_eq eq17
                        have w5419 : rdA s11 p0 9 0 = rdA q2.2 p0 9 0 := by rw [← es11]; exact rdA_k cq2 t_p0 (κ' := 59) rfl tq5 (by decide)
                        have w5421 := rdA_fr (k := 9) (j := 0) gq2 c0 t_p0 (κ' := 59) rfl rfl rfl
                        have w5425 : rdA q2.2 p0 10 0 = mm_I q2.2 q5 ((0 : Int32)).toNatClampNeg := rdA_eq eq5
                        have w5424 := rdA_fr (k := 10) (j := 0) gq2 c0 t_p0 (κ' := 60) rfl rfl rfl
                        have a5426 := zi_and p3 127 (by decide)
                        have a5427 := zi_and p2 8 (by decide)
                        exact sw_some ⟨cs11, fs11, (by (try simp only [zp, zo, zq] at u5318 xq2 h5319 xq12 h5332 xq14 a5352 u5353 h5354 h5355 h5356 h5357 w5358 w5359 r5360 r5361 r5362 h5363 h5384 h5385 h5406 h5407 w5408 w5411 w5410 w5412 w5414 w5416 w5415 w5418 w5420 w5419 w5421 w5425 w5424 a5426 a5427 ⊢) <;> (try simp only [zz, Int32.reduceToInt, ne_eq] at u5318 xq2 h5319 xq12 h5332 xq14 a5352 u5353 h5354 h5355 h5356 h5357 w5358 w5359 r5360 r5361 r5362 h5363 h5384 h5385 h5406 h5407 w5408 w5411 w5410 w5412 w5414 w5416 w5415 w5418 w5420 w5419 w5421 w5425 w5424 a5426 a5427 ⊢) <;> (try simp (disch := omega) only [zb] at u5318 xq2 h5319 xq12 h5332 xq14 a5352 u5353 h5354 h5355 h5356 h5357 w5358 w5359 r5360 r5361 r5362 h5363 h5384 h5385 h5406 h5407 w5408 w5411 w5410 w5412 w5414 w5416 w5415 w5418 w5420 w5419 w5421 w5425 w5424 a5426 a5427 ⊢) <;> first | omega | ((try simp (disch := omega) only [zb] at u5318 xq2 h5319 xq12 h5332 xq14 a5352 u5353 h5354 h5355 h5356 h5357 w5358 w5359 r5360 r5361 r5362 h5363 h5384 h5385 h5406 h5407 w5408 w5411 w5410 w5412 w5414 w5416 w5415 w5418 w5420 w5419 w5421 w5425 w5424 a5426 a5427 ⊢) <;> omega))⟩
                      · refine sw_sh (ci_sh cs11 t_p0 rfl) ?_
                        refine sw_on (sX9_put cs11 t_p0 (by (try simp only [zp, zo, zq] at u5318 xq2 h5319 xq12 h5332 xq14 a5352 u5353 h5354 h5355 h5356 h5357 w5358 w5359 r5360 r5361 r5362 h5363 h5384 h5385 h5406 h5407 ⊢) <;> (try simp only [zz, Int32.reduceToInt, ne_eq] at u5318 xq2 h5319 xq12 h5332 xq14 a5352 u5353 h5354 h5355 h5356 h5357 w5358 w5359 r5360 r5361 r5362 h5363 h5384 h5385 h5406 h5407 ⊢) <;> (try simp (disch := omega) only [zb] at u5318 xq2 h5319 xq12 h5332 xq14 a5352 u5353 h5354 h5355 h5356 h5357 w5358 w5359 r5360 r5361 r5362 h5363 h5384 h5385 h5406 h5407 ⊢) <;> first | omega | ((try simp (disch := omega) only [zb] at u5318 xq2 h5319 xq12 h5332 xq14 a5352 u5353 h5354 h5355 h5356 h5357 w5358 w5359 r5360 r5361 r5362 h5363 h5384 h5385 h5406 h5407 ⊢) <;> omega)) ) ?_
                        intro q28 hqq28
                        obtain ⟨cq28, gq28, xq28⟩ := hqq28
                        have fq28 := fr_trans fs11 gq28 rfl
                        have w5428 := (gq28.2.2 _ _ t_p0 0 rfl).1
                        have w5429 : mm_I s11 p0 0 = mm_I q2.2 p0 0 := by rw [← es11]; exact rd_k t_p0 tq5 (by decide)
                        have w5431 := rdA_fr (k := 9) (j := 1) gq28 cs11 t_p0 (κ' := 59) rfl rfl rfl
                        have w5433 : rdA s11 p0 9 1 = mm_I s11 q17 ((1 : Int32)).toNatClampNeg := rdA_eq eq17
                        have w5432 : rdA s11 p0 9 1 = rdA q2.2 p0 9 1 := by rw [← es11]; exact rdA_k cq2 t_p0 (κ' := 59) rfl tq5 (by decide)
                        have w5434 := rdA_fr (k := 9) (j := 1) gq2 c0 t_p0 (κ' := 59) rfl rfl rfl
                        have w5436 := rdA_fr (k := 10) (j := 1) gq28 cs11 t_p0 (κ' := 60) rfl rfl rfl
                        have w5437 : rdA s11 p0 10 1 = rdA q2.2 p0 10 1 := by rw [← es11]; exact rdA_j (by decide)
                        have w5439 : rdA q2.2 p0 10 1 = mm_I q2.2 q5 ((1 : Int32)).toNatClampNeg := rdA_eq eq5
                        have w5438 := rdA_fr (k := 10) (j := 1) gq2 c0 t_p0 (κ' := 60) rfl rfl rfl
                        have w5441 := rdA_fr (k := 10) (j := 0) gq28 cs11 t_p0 (κ' := 60) rfl rfl rfl
                        have w5442 : rdA s11 p0 10 0 = -1 := by rw [← es11]; exact rdA_self eq5
                        have w5443 := rdA_fr (k := 9) (j := 0) gq28 cs11 t_p0 (κ' := 59) rfl rfl rfl
                        have w5445 : rdA s11 p0 9 0 = mm_I s11 q17 ((0 : Int32)).toNatClampNeg := rdA_eq eq17
                        have w5444 : rdA s11 p0 9 0 = rdA q2.2 p0 9 0 := by rw [← es11]; exact rdA_k cq2 t_p0 (κ' := 59) rfl tq5 (by decide)
                        have w5446 := rdA_fr (k := 9) (j := 0) gq2 c0 t_p0 (κ' := 59) rfl rfl rfl
                        have w5450 : rdA q2.2 p0 10 0 = mm_I q2.2 q5 ((0 : Int32)).toNatClampNeg := rdA_eq eq5
                        have w5449 := rdA_fr (k := 10) (j := 0) gq2 c0 t_p0 (κ' := 60) rfl rfl rfl
                        have a5451 := zi_and p3 127 (by decide)
                        have a5452 := zi_and p2 8 (by decide)
                        exact sw_some ⟨cq28, fq28, (by (try simp only [zp, zo, zq] at u5318 xq2 h5319 xq12 h5332 xq14 a5352 u5353 h5354 h5355 h5356 h5357 w5358 w5359 r5360 r5361 r5362 h5363 h5384 h5385 h5406 h5407 w5428 w5429 w5431 w5433 w5432 w5434 w5436 w5437 w5439 w5438 w5441 w5442 w5443 w5445 w5444 w5446 w5450 w5449 a5451 a5452 ⊢) <;> (try simp only [zz, Int32.reduceToInt, ne_eq] at u5318 xq2 h5319 xq12 h5332 xq14 a5352 u5353 h5354 h5355 h5356 h5357 w5358 w5359 r5360 r5361 r5362 h5363 h5384 h5385 h5406 h5407 w5428 w5429 w5431 w5433 w5432 w5434 w5436 w5437 w5439 w5438 w5441 w5442 w5443 w5445 w5444 w5446 w5450 w5449 a5451 a5452 ⊢) <;> (try simp (disch := omega) only [zb] at u5318 xq2 h5319 xq12 h5332 xq14 a5352 u5353 h5354 h5355 h5356 h5357 w5358 w5359 r5360 r5361 r5362 h5363 h5384 h5385 h5406 h5407 w5428 w5429 w5431 w5433 w5432 w5434 w5436 w5437 w5439 w5438 w5441 w5442 w5443 w5445 w5444 w5446 w5450 w5449 a5451 a5452 ⊢) <;> first | omega | ((try simp (disch := omega) only [zb] at u5318 xq2 h5319 xq12 h5332 xq14 a5352 u5353 h5354 h5355 h5356 h5357 w5358 w5359 r5360 r5361 r5362 h5363 h5384 h5385 h5406 h5407 w5428 w5429 w5431 w5433 w5432 w5434 w5436 w5437 w5439 w5438 w5441 w5442 w5443 w5445 w5444 w5446 w5450 w5449 a5451 a5452 ⊢) <;> omega))⟩
                    · refine sw_sh (ci_sh cs11 t_p0 rfl) ?_
                      refine sw_on (sX9_put cs11 t_p0 (by (try simp only [zp, zo, zq] at u5318 xq2 h5319 xq12 h5332 xq14 a5352 u5353 h5354 h5355 h5356 h5357 w5358 w5359 r5360 r5361 r5362 h5363 h5384 h5385 h5406 ⊢) <;> (try simp only [zz, Int32.reduceToInt, ne_eq] at u5318 xq2 h5319 xq12 h5332 xq14 a5352 u5353 h5354 h5355 h5356 h5357 w5358 w5359 r5360 r5361 r5362 h5363 h5384 h5385 h5406 ⊢) <;> (try simp (disch := omega) only [zb] at u5318 xq2 h5319 xq12 h5332 xq14 a5352 u5353 h5354 h5355 h5356 h5357 w5358 w5359 r5360 r5361 r5362 h5363 h5384 h5385 h5406 ⊢) <;> first | omega | ((try simp (disch := omega) only [zb] at u5318 xq2 h5319 xq12 h5332 xq14 a5352 u5353 h5354 h5355 h5356 h5357 w5358 w5359 r5360 r5361 r5362 h5363 h5384 h5385 h5406 ⊢) <;> omega)) ) ?_
                      intro q30 hqq30
                      obtain ⟨cq30, gq30, xq30⟩ := hqq30
                      have fq30 := fr_trans fs11 gq30 rfl
                      unfold fX9_pair_264
                      refine sw_ite (fun h5453 => ?_) (fun h5453 => ?_)
                      · have w5454 := (gq30.2.2 _ _ t_p0 0 rfl).1
                        have w5455 : mm_I s11 p0 0 = mm_I q2.2 p0 0 := by rw [← es11]; exact rd_k t_p0 tq5 (by decide)
                        have w5457 := rdA_fr (k := 9) (j := 1) gq30 cs11 t_p0 (κ' := 59) rfl rfl rfl
                        have w5459 : rdA s11 p0 9 1 = mm_I s11 q17 ((1 : Int32)).toNatClampNeg := rdA_eq eq17
                        have w5458 : rdA s11 p0 9 1 = rdA q2.2 p0 9 1 := by rw [← es11]; exact rdA_k cq2 t_p0 (κ' := 59) rfl tq5 (by decide)
                        have w5460 := rdA_fr (k := 9) (j := 1) gq2 c0 t_p0 (κ' := 59) rfl rfl rfl
                        have w5462 := rdA_fr (k := 10) (j := 1) gq30 cs11 t_p0 (κ' := 60) rfl rfl rfl
                        have w5463 : rdA s11 p0 10 1 = rdA q2.2 p0 10 1 := by rw [← es11]; exact rdA_j (by decide)
                        have w5465 : rdA q2.2 p0 10 1 = mm_I q2.2 q5 ((1 : Int32)).toNatClampNeg := rdA_eq eq5
                        have w5464 := rdA_fr (k := 10) (j := 1) gq2 c0 t_p0 (κ' := 60) rfl rfl rfl
                        have w5467 := rdA_fr (k := 10) (j := 0) gq30 cs11 t_p0 (κ' := 60) rfl rfl rfl
                        have w5468 : rdA s11 p0 10 0 = -1 := by rw [← es11]; exact rdA_self eq5
                        have w5469 := rdA_fr (k := 9) (j := 0) gq30 cs11 t_p0 (κ' := 59) rfl rfl rfl
                        have w5471 : rdA s11 p0 9 0 = mm_I s11 q17 ((0 : Int32)).toNatClampNeg := rdA_eq eq17
                        have w5470 : rdA s11 p0 9 0 = rdA q2.2 p0 9 0 := by rw [← es11]; exact rdA_k cq2 t_p0 (κ' := 59) rfl tq5 (by decide)
                        have w5472 := rdA_fr (k := 9) (j := 0) gq2 c0 t_p0 (κ' := 59) rfl rfl rfl
                        have w5476 : rdA q2.2 p0 10 0 = mm_I q2.2 q5 ((0 : Int32)).toNatClampNeg := rdA_eq eq5
                        have w5475 := rdA_fr (k := 10) (j := 0) gq2 c0 t_p0 (κ' := 60) rfl rfl rfl
                        have a5477 := zi_and p3 127 (by decide)
                        have a5478 := zi_and p2 8 (by decide)
                        exact sw_some ⟨cq30, fq30, (by (try simp only [zp, zo, zq] at u5318 xq2 h5319 xq12 h5332 xq14 a5352 u5353 h5354 h5355 h5356 h5357 w5358 w5359 r5360 r5361 r5362 h5363 h5384 h5385 h5406 h5453 w5454 w5455 w5457 w5459 w5458 w5460 w5462 w5463 w5465 w5464 w5467 w5468 w5469 w5471 w5470 w5472 w5476 w5475 a5477 a5478 ⊢) <;> (try simp only [zz, Int32.reduceToInt, ne_eq] at u5318 xq2 h5319 xq12 h5332 xq14 a5352 u5353 h5354 h5355 h5356 h5357 w5358 w5359 r5360 r5361 r5362 h5363 h5384 h5385 h5406 h5453 w5454 w5455 w5457 w5459 w5458 w5460 w5462 w5463 w5465 w5464 w5467 w5468 w5469 w5471 w5470 w5472 w5476 w5475 a5477 a5478 ⊢) <;> (try simp (disch := omega) only [zb] at u5318 xq2 h5319 xq12 h5332 xq14 a5352 u5353 h5354 h5355 h5356 h5357 w5358 w5359 r5360 r5361 r5362 h5363 h5384 h5385 h5406 h5453 w5454 w5455 w5457 w5459 w5458 w5460 w5462 w5463 w5465 w5464 w5467 w5468 w5469 w5471 w5470 w5472 w5476 w5475 a5477 a5478 ⊢) <;> first | omega | ((try simp (disch := omega) only [zb] at u5318 xq2 h5319 xq12 h5332 xq14 a5352 u5353 h5354 h5355 h5356 h5357 w5358 w5359 r5360 r5361 r5362 h5363 h5384 h5385 h5406 h5453 w5454 w5455 w5457 w5459 w5458 w5460 w5462 w5463 w5465 w5464 w5467 w5468 w5469 w5471 w5470 w5472 w5476 w5475 a5477 a5478 ⊢) <;> omega))⟩
                      · refine sw_sh (ci_sh cq30 t_p0 rfl) ?_
                        refine sw_on (sX9_put cq30 t_p0 (by (try simp only [zp, zo, zq] at u5318 xq2 h5319 xq12 h5332 xq14 a5352 u5353 h5354 h5355 h5356 h5357 w5358 w5359 r5360 r5361 r5362 h5363 h5384 h5385 h5406 h5453 ⊢) <;> (try simp only [zz, Int32.reduceToInt, ne_eq] at u5318 xq2 h5319 xq12 h5332 xq14 a5352 u5353 h5354 h5355 h5356 h5357 w5358 w5359 r5360 r5361 r5362 h5363 h5384 h5385 h5406 h5453 ⊢) <;> (try simp (disch := omega) only [zb] at u5318 xq2 h5319 xq12 h5332 xq14 a5352 u5353 h5354 h5355 h5356 h5357 w5358 w5359 r5360 r5361 r5362 h5363 h5384 h5385 h5406 h5453 ⊢) <;> first | omega | ((try simp (disch := omega) only [zb] at u5318 xq2 h5319 xq12 h5332 xq14 a5352 u5353 h5354 h5355 h5356 h5357 w5358 w5359 r5360 r5361 r5362 h5363 h5384 h5385 h5406 h5453 ⊢) <;> omega)) ) ?_
                        intro q28 hqq28
                        obtain ⟨cq28, gq28, xq28⟩ := hqq28
                        have fq28 := fr_trans fq30 gq28 rfl
                        have w5479 := (gq28.2.2 _ _ t_p0 0 rfl).1
                        have w5480 := (gq30.2.2 _ _ t_p0 0 rfl).1
                        have w5481 : mm_I s11 p0 0 = mm_I q2.2 p0 0 := by rw [← es11]; exact rd_k t_p0 tq5 (by decide)
                        have w5483 := rdA_fr (k := 9) (j := 1) gq28 cq30 t_p0 (κ' := 59) rfl rfl rfl
                        have w5484 := rdA_fr (k := 9) (j := 1) gq30 cs11 t_p0 (κ' := 59) rfl rfl rfl
                        have w5486 : rdA s11 p0 9 1 = mm_I s11 q17 ((1 : Int32)).toNatClampNeg := rdA_eq eq17
                        have w5485 : rdA s11 p0 9 1 = rdA q2.2 p0 9 1 := by rw [← es11]; exact rdA_k cq2 t_p0 (κ' := 59) rfl tq5 (by decide)
                        have w5487 := rdA_fr (k := 9) (j := 1) gq2 c0 t_p0 (κ' := 59) rfl rfl rfl
                        have w5489 := rdA_fr (k := 10) (j := 1) gq28 cq30 t_p0 (κ' := 60) rfl rfl rfl
                        have w5490 := rdA_fr (k := 10) (j := 1) gq30 cs11 t_p0 (κ' := 60) rfl rfl rfl
                        have w5491 : rdA s11 p0 10 1 = rdA q2.2 p0 10 1 := by rw [← es11]; exact rdA_j (by decide)
                        have w5493 : rdA q2.2 p0 10 1 = mm_I q2.2 q5 ((1 : Int32)).toNatClampNeg := rdA_eq eq5
                        have w5492 := rdA_fr (k := 10) (j := 1) gq2 c0 t_p0 (κ' := 60) rfl rfl rfl
                        have w5495 := rdA_fr (k := 10) (j := 0) gq28 cq30 t_p0 (κ' := 60) rfl rfl rfl
                        have w5496 := rdA_fr (k := 10) (j := 0) gq30 cs11 t_p0 (κ' := 60) rfl rfl rfl
                        have w5497 : rdA s11 p0 10 0 = -1 := by rw [← es11]; exact rdA_self eq5
                        have w5498 := rdA_fr (k := 9) (j := 0) gq28 cq30 t_p0 (κ' := 59) rfl rfl rfl
                        have w5499 := rdA_fr (k := 9) (j := 0) gq30 cs11 t_p0 (κ' := 59) rfl rfl rfl
                        have w5501 : rdA s11 p0 9 0 = mm_I s11 q17 ((0 : Int32)).toNatClampNeg := rdA_eq eq17
                        have w5500 : rdA s11 p0 9 0 = rdA q2.2 p0 9 0 := by rw [← es11]; exact rdA_k cq2 t_p0 (κ' := 59) rfl tq5 (by decide)
                        have w5502 := rdA_fr (k := 9) (j := 0) gq2 c0 t_p0 (κ' := 59) rfl rfl rfl
                        have w5506 : rdA q2.2 p0 10 0 = mm_I q2.2 q5 ((0 : Int32)).toNatClampNeg := rdA_eq eq5
                        have w5505 := rdA_fr (k := 10) (j := 0) gq2 c0 t_p0 (κ' := 60) rfl rfl rfl
                        have a5507 := zi_and p3 127 (by decide)
                        have a5508 := zi_and p2 8 (by decide)
                        exact sw_some ⟨cq28, fq28, (by (try simp only [zp, zo, zq] at u5318 xq2 h5319 xq12 h5332 xq14 a5352 u5353 h5354 h5355 h5356 h5357 w5358 w5359 r5360 r5361 r5362 h5363 h5384 h5385 h5406 h5453 w5479 w5480 w5481 w5483 w5484 w5486 w5485 w5487 w5489 w5490 w5491 w5493 w5492 w5495 w5496 w5497 w5498 w5499 w5501 w5500 w5502 w5506 w5505 a5507 a5508 ⊢) <;> (try simp only [zz, Int32.reduceToInt, ne_eq] at u5318 xq2 h5319 xq12 h5332 xq14 a5352 u5353 h5354 h5355 h5356 h5357 w5358 w5359 r5360 r5361 r5362 h5363 h5384 h5385 h5406 h5453 w5479 w5480 w5481 w5483 w5484 w5486 w5485 w5487 w5489 w5490 w5491 w5493 w5492 w5495 w5496 w5497 w5498 w5499 w5501 w5500 w5502 w5506 w5505 a5507 a5508 ⊢) <;> (try simp (disch := omega) only [zb] at u5318 xq2 h5319 xq12 h5332 xq14 a5352 u5353 h5354 h5355 h5356 h5357 w5358 w5359 r5360 r5361 r5362 h5363 h5384 h5385 h5406 h5453 w5479 w5480 w5481 w5483 w5484 w5486 w5485 w5487 w5489 w5490 w5491 w5493 w5492 w5495 w5496 w5497 w5498 w5499 w5501 w5500 w5502 w5506 w5505 a5507 a5508 ⊢) <;> first | omega | ((try simp (disch := omega) only [zb] at u5318 xq2 h5319 xq12 h5332 xq14 a5352 u5353 h5354 h5355 h5356 h5357 w5358 w5359 r5360 r5361 r5362 h5363 h5384 h5385 h5406 h5453 w5479 w5480 w5481 w5483 w5484 w5486 w5485 w5487 w5489 w5490 w5491 w5493 w5492 w5495 w5496 w5497 w5498 w5499 w5501 w5500 w5502 w5506 w5505 a5507 a5508 ⊢) <;> omega))⟩
                · unfold fX9_pair_250
                  refine sw_ite (fun h5509 => ?_) (fun h5509 => ?_)
                  · unfold fX9_pair_264
                    refine sw_ite (fun h5510 => ?_) (fun h5510 => ?_)
                    · have w5511 : mm_I s11 p0 0 = mm_I q2.2 p0 0 := by rw [← es11]; exact rd_k t_p0 tq5 (by decide)
                      have w5514 : rdA s11 p0 9 1 = mm_I s11 q17 ((1 : Int32)).toNatClampNeg := rdA_eq eq17
                      have w5513 : rdA s11 p0 9 1 = rdA q2.2 p0 9 1 := by rw [← es11]; exact rdA_k cq2 t_p0 (κ' := 59) rfl tq5 (by decide)
                      have w5515 := rdA_fr (k := 9) (j := 1) gq2 c0 t_p0 (κ' := 59) rfl rfl rfl
                      have w5517 : rdA s11 p0 10 1 = rdA q2.2 p0 10 1 := by rw [← es11]; exact rdA_j (by decide)
                      have w5519 : rdA q2.2 p0 10 1 = mm_I q2.2 q5 ((1 : Int32)).toNatClampNeg := rdA_eq eq5
                      have w5518 := rdA_fr (k := 10) (j := 1) gq2 c0 t_p0 (κ' := 60) rfl rfl rfl
                      have w5521 : rdA s11 p0 10 0 = -1 := by rw [← es11]; exact rdA_self eq5
                      have w5523 : rdA s11 p0 9 0 = mm_I s11 q17 ((0 : Int32)).toNatClampNeg := rdA_eq eq17
                      have w5522 : rdA s11 p0 9 0 = rdA q2.2 p0 9 0 := by rw [← es11]; exact rdA_k cq2 t_p0 (κ' := 59) rfl tq5 (by decide)
                      have w5524 := rdA_fr (k := 9) (j := 0) gq2 c0 t_p0 (κ' := 59) rfl rfl rfl
                      have w5528 : rdA q2.2 p0 10 0 = mm_I q2.2 q5 ((0 : Int32)).toNatClampNeg := rdA_eq eq5
                      have w5527 := rdA_fr (k := 10) (j := 0) gq2 c0 t_p0 (κ' := 60) rfl rfl rfl
                      have a5529 := zi_and p3 127 (by decide)
                      have a5530 := zi_and p2 8 (by decide)
                      exact sw_some ⟨cs11, fs11, (by (try simp only [zp, zo, zq] at u5318 xq2 h5319 xq12 h5332 xq14 a5352 u5353 h5354 h5355 h5356 h5357 w5358 w5359 r5360 r5361 r5362 h5363 h5384 h5509 h5510 w5511 w5514 w5513 w5515 w5517 w5519 w5518 w5521 w5523 w5522 w5524 w5528 w5527 a5529 a5530 ⊢) <;> (try simp only [zz, Int32.reduceToInt, ne_eq] at u5318 xq2 h5319 xq12 h5332 xq14 a5352 u5353 h5354 h5355 h5356 h5357 w5358 w5359 r5360 r5361 r5362 h5363 h5384 h5509 h5510 w5511 w5514 w5513 w5515 w5517 w5519 w5518 w5521 w5523 w5522 w5524 w5528 w5527 a5529 a5530 ⊢) <;> (try simp (disch := omega) only [zb] at u5318 xq2 h5319 xq12 h5332 xq14 a5352 u5353 h5354 h5355 h5356 h5357 w5358 w5359 r5360 r5361 r5362 h5363 h5384 h5509 h5510 w5511 w5514 w5513 w5515 w5517 w5519 w5518 w5521 w5523 w5522 w5524 w5528 w5527 a5529 a5530 ⊢) <;> first | omega | ((try simp (disch := omega) only [zb] at u5318 xq2 h5319 xq12 h5332 xq14 a5352 u5353 h5354 h5355 h5356 h5357 w5358 w5359 r5360 r5361 r5362 h5363 h5384 h5509 h5510 w5511 w5514 w5513 w5515 w5517 w5519 w5518 w5521 w5523 w5522 w5524 w5528 w5527 a5529 a5530 ⊢) <;> omega))⟩
                    · refine sw_sh (ci_sh cs11 t_p0 rfl) ?_
                      refine sw_on (sX9_put cs11 t_p0 (by (try simp only [zp, zo, zq] at u5318 xq2 h5319 xq12 h5332 xq14 a5352 u5353 h5354 h5355 h5356 h5357 w5358 w5359 r5360 r5361 r5362 h5363 h5384 h5509 h5510 ⊢) <;> (try simp only [zz, Int32.reduceToInt, ne_eq] at u5318 xq2 h5319 xq12 h5332 xq14 a5352 u5353 h5354 h5355 h5356 h5357 w5358 w5359 r5360 r5361 r5362 h5363 h5384 h5509 h5510 ⊢) <;> (try simp (disch := omega) only [zb] at u5318 xq2 h5319 xq12 h5332 xq14 a5352 u5353 h5354 h5355 h5356 h5357 w5358 w5359 r5360 r5361 r5362 h5363 h5384 h5509 h5510 ⊢) <;> first | omega | ((try simp (disch := omega) only [zb] at u5318 xq2 h5319 xq12 h5332 xq14 a5352 u5353 h5354 h5355 h5356 h5357 w5358 w5359 r5360 r5361 r5362 h5363 h5384 h5509 h5510 ⊢) <;> omega)) ) ?_
                      intro q28 hqq28
                      obtain ⟨cq28, gq28, xq28⟩ := hqq28
                      have fq28 := fr_trans fs11 gq28 rfl
                      have w5531 := (gq28.2.2 _ _ t_p0 0 rfl).1
                      have w5532 : mm_I s11 p0 0 = mm_I q2.2 p0 0 := by rw [← es11]; exact rd_k t_p0 tq5 (by decide)
                      have w5534 := rdA_fr (k := 9) (j := 1) gq28 cs11 t_p0 (κ' := 59) rfl rfl rfl
                      have w5536 : rdA s11 p0 9 1 = mm_I s11 q17 ((1 : Int32)).toNatClampNeg := rdA_eq eq17
                      have w5535 : rdA s11 p0 9 1 = rdA q2.2 p0 9 1 := by rw [← es11]; exact rdA_k cq2 t_p0 (κ' := 59) rfl tq5 (by decide)
                      have w5537 := rdA_fr (k := 9) (j := 1) gq2 c0 t_p0 (κ' := 59) rfl rfl rfl
                      have w5539 := rdA_fr (k := 10) (j := 1) gq28 cs11 t_p0 (κ' := 60) rfl rfl rfl
                      have w5540 : rdA s11 p0 10 1 = rdA q2.2 p0 10 1 := by rw [← es11]; exact rdA_j (by decide)
                      have w5542 : rdA q2.2 p0 10 1 = mm_I q2.2 q5 ((1 : Int32)).toNatClampNeg := rdA_eq eq5
                      have w5541 := rdA_fr (k := 10) (j := 1) gq2 c0 t_p0 (κ' := 60) rfl rfl rfl
                      have w5544 := rdA_fr (k := 10) (j := 0) gq28 cs11 t_p0 (κ' := 60) rfl rfl rfl
                      have w5545 : rdA s11 p0 10 0 = -1 := by rw [← es11]; exact rdA_self eq5
                      have w5546 := rdA_fr (k := 9) (j := 0) gq28 cs11 t_p0 (κ' := 59) rfl rfl rfl
                      have w5548 : rdA s11 p0 9 0 = mm_I s11 q17 ((0 : Int32)).toNatClampNeg := rdA_eq eq17
                      have w5547 : rdA s11 p0 9 0 = rdA q2.2 p0 9 0 := by rw [← es11]; exact rdA_k cq2 t_p0 (κ' := 59) rfl tq5 (by decide)
                      have w5549 := rdA_fr (k := 9) (j := 0) gq2 c0 t_p0 (κ' := 59) rfl rfl rfl
                      have w5553 : rdA q2.2 p0 10 0 = mm_I q2.2 q5 ((0 : Int32)).toNatClampNeg := rdA_eq eq5
                      have w5552 := rdA_fr (k := 10) (j := 0) gq2 c0 t_p0 (κ' := 60) rfl rfl rfl
                      have a5554 := zi_and p3 127 (by decide)
                      have a5555 := zi_and p2 8 (by decide)
                      exact sw_some ⟨cq28, fq28, (by (try simp only [zp, zo, zq] at u5318 xq2 h5319 xq12 h5332 xq14 a5352 u5353 h5354 h5355 h5356 h5357 w5358 w5359 r5360 r5361 r5362 h5363 h5384 h5509 h5510 w5531 w5532 w5534 w5536 w5535 w5537 w5539 w5540 w5542 w5541 w5544 w5545 w5546 w5548 w5547 w5549 w5553 w5552 a5554 a5555 ⊢) <;> (try simp only [zz, Int32.reduceToInt, ne_eq] at u5318 xq2 h5319 xq12 h5332 xq14 a5352 u5353 h5354 h5355 h5356 h5357 w5358 w5359 r5360 r5361 r5362 h5363 h5384 h5509 h5510 w5531 w5532 w5534 w5536 w5535 w5537 w5539 w5540 w5542 w5541 w5544 w5545 w5546 w5548 w5547 w5549 w5553 w5552 a5554 a5555 ⊢) <;> (try simp (disch := omega) only [zb] at u5318 xq2 h5319 xq12 h5332 xq14 a5352 u5353 h5354 h5355 h5356 h5357 w5358 w5359 r5360 r5361 r5362 h5363 h5384 h5509 h5510 w5531 w5532 w5534 w5536 w5535 w5537 w5539 w5540 w5542 w5541 w5544 w5545 w5546 w5548 w5547 w5549 w5553 w5552 a5554 a5555 ⊢) <;> first | omega | ((try simp (disch := omega) only [zb] at u5318 xq2 h5319 xq12 h5332 xq14 a5352 u5353 h5354 h5355 h5356 h5357 w5358 w5359 r5360 r5361 r5362 h5363 h5384 h5509 h5510 w5531 w5532 w5534 w5536 w5535 w5537 w5539 w5540 w5542 w5541 w5544 w5545 w5546 w5548 w5547 w5549 w5553 w5552 a5554 a5555 ⊢) <;> omega))⟩
                  · refine sw_sh (ci_sh cs11 t_p0 rfl) ?_
                    refine sw_on (sX9_put cs11 t_p0 (by (try simp only [zp, zo, zq] at u5318 xq2 h5319 xq12 h5332 xq14 a5352 u5353 h5354 h5355 h5356 h5357 w5358 w5359 r5360 r5361 r5362 h5363 h5384 h5509 ⊢) <;> (try simp only [zz, Int32.reduceToInt, ne_eq] at u5318 xq2 h5319 xq12 h5332 xq14 a5352 u5353 h5354 h5355 h5356 h5357 w5358 w5359 r5360 r5361 r5362 h5363 h5384 h5509 ⊢) <;> (try simp (disch := omega) only [zb] at u5318 xq2 h5319 xq12 h5332 xq14 a5352 u5353 h5354 h5355 h5356 h5357 w5358 w5359 r5360 r5361 r5362 h5363 h5384 h5509 ⊢) <;> first | omega | ((try simp (disch := omega) only [zb] at u5318 xq2 h5319 xq12 h5332 xq14 a5352 u5353 h5354 h5355 h5356 h5357 w5358 w5359 r5360 r5361 r5362 h5363 h5384 h5509 ⊢) <;> omega)) ) ?_
                    intro q30 hqq30
                    obtain ⟨cq30, gq30, xq30⟩ := hqq30
                    have fq30 := fr_trans fs11 gq30 rfl
                    unfold fX9_pair_264
                    refine sw_ite (fun h5556 => ?_) (fun h5556 => ?_)
                    · have w5557 := (gq30.2.2 _ _ t_p0 0 rfl).1
                      have w5558 : mm_I s11 p0 0 = mm_I q2.2 p0 0 := by rw [← es11]; exact rd_k t_p0 tq5 (by decide)
                      have w5560 := rdA_fr (k := 9) (j := 1) gq30 cs11 t_p0 (κ' := 59) rfl rfl rfl
                      have w5562 : rdA s11 p0 9 1 = mm_I s11 q17 ((1 : Int32)).toNatClampNeg := rdA_eq eq17
                      have w5561 : rdA s11 p0 9 1 = rdA q2.2 p0 9 1 := by rw [← es11]; exact rdA_k cq2 t_p0 (κ' := 59) rfl tq5 (by decide)
                      have w5563 := rdA_fr (k := 9) (j := 1) gq2 c0 t_p0 (κ' := 59) rfl rfl rfl
                      have w5565 := rdA_fr (k := 10) (j := 1) gq30 cs11 t_p0 (κ' := 60) rfl rfl rfl
                      have w5566 : rdA s11 p0 10 1 = rdA q2.2 p0 10 1 := by rw [← es11]; exact rdA_j (by decide)
                      have w5568 : rdA q2.2 p0 10 1 = mm_I q2.2 q5 ((1 : Int32)).toNatClampNeg := rdA_eq eq5
                      have w5567 := rdA_fr (k := 10) (j := 1) gq2 c0 t_p0 (κ' := 60) rfl rfl rfl
                      have w5570 := rdA_fr (k := 10) (j := 0) gq30 cs11 t_p0 (κ' := 60) rfl rfl rfl
                      have w5571 : rdA s11 p0 10 0 = -1 := by rw [← es11]; exact rdA_self eq5
                      have w5572 := rdA_fr (k := 9) (j := 0) gq30 cs11 t_p0 (κ' := 59) rfl rfl rfl
                      have w5574 : rdA s11 p0 9 0 = mm_I s11 q17 ((0 : Int32)).toNatClampNeg := rdA_eq eq17
                      have w5573 : rdA s11 p0 9 0 = rdA q2.2 p0 9 0 := by rw [← es11]; exact rdA_k cq2 t_p0 (κ' := 59) rfl tq5 (by decide)
                      have w5575 := rdA_fr (k := 9) (j := 0) gq2 c0 t_p0 (κ' := 59) rfl rfl rfl
                      have w5579 : rdA q2.2 p0 10 0 = mm_I q2.2 q5 ((0 : Int32)).toNatClampNeg := rdA_eq eq5
                      have w5578 := rdA_fr (k := 10) (j := 0) gq2 c0 t_p0 (κ' := 60) rfl rfl rfl
                      have a5580 := zi_and p3 127 (by decide)
                      have a5581 := zi_and p2 8 (by decide)
                      exact sw_some ⟨cq30, fq30, (by (try simp only [zp, zo, zq] at u5318 xq2 h5319 xq12 h5332 xq14 a5352 u5353 h5354 h5355 h5356 h5357 w5358 w5359 r5360 r5361 r5362 h5363 h5384 h5509 h5556 w5557 w5558 w5560 w5562 w5561 w5563 w5565 w5566 w5568 w5567 w5570 w5571 w5572 w5574 w5573 w5575 w5579 w5578 a5580 a5581 ⊢) <;> (try simp only [zz, Int32.reduceToInt, ne_eq] at u5318 xq2 h5319 xq12 h5332 xq14 a5352 u5353 h5354 h5355 h5356 h5357 w5358 w5359 r5360 r5361 r5362 h5363 h5384 h5509 h5556 w5557 w5558 w5560 w5562 w5561 w5563 w5565 w5566 w5568 w5567 w5570 w5571 w5572 w5574 w5573 w5575 w5579 w5578 a5580 a5581 ⊢) <;> (try simp (disch := omega) only [zb] at u5318 xq2 h5319 xq12 h5332 xq14 a5352 u5353 h5354 h5355 h5356 h5357 w5358 w5359 r5360 r5361 r5362 h5363 h5384 h5509 h5556 w5557 w5558 w5560 w5562 w5561 w5563 w5565 w5566 w5568 w5567 w5570 w5571 w5572 w5574 w5573 w5575 w5579 w5578 a5580 a5581 ⊢) <;> first | omega | ((try simp (disch := omega) only [zb] at u5318 xq2 h5319 xq12 h5332 xq14 a5352 u5353 h5354 h5355 h5356 h5357 w5358 w5359 r5360 r5361 r5362 h5363 h5384 h5509 h5556 w5557 w5558 w5560 w5562 w5561 w5563 w5565 w5566 w5568 w5567 w5570 w5571 w5572 w5574 w5573 w5575 w5579 w5578 a5580 a5581 ⊢) <;> omega))⟩
                    · refine sw_sh (ci_sh cq30 t_p0 rfl) ?_
                      refine sw_on (sX9_put cq30 t_p0 (by (try simp only [zp, zo, zq] at u5318 xq2 h5319 xq12 h5332 xq14 a5352 u5353 h5354 h5355 h5356 h5357 w5358 w5359 r5360 r5361 r5362 h5363 h5384 h5509 h5556 ⊢) <;> (try simp only [zz, Int32.reduceToInt, ne_eq] at u5318 xq2 h5319 xq12 h5332 xq14 a5352 u5353 h5354 h5355 h5356 h5357 w5358 w5359 r5360 r5361 r5362 h5363 h5384 h5509 h5556 ⊢) <;> (try simp (disch := omega) only [zb] at u5318 xq2 h5319 xq12 h5332 xq14 a5352 u5353 h5354 h5355 h5356 h5357 w5358 w5359 r5360 r5361 r5362 h5363 h5384 h5509 h5556 ⊢) <;> first | omega | ((try simp (disch := omega) only [zb] at u5318 xq2 h5319 xq12 h5332 xq14 a5352 u5353 h5354 h5355 h5356 h5357 w5358 w5359 r5360 r5361 r5362 h5363 h5384 h5509 h5556 ⊢) <;> omega)) ) ?_
                      intro q28 hqq28
                      obtain ⟨cq28, gq28, xq28⟩ := hqq28
                      have fq28 := fr_trans fq30 gq28 rfl
                      have w5582 := (gq28.2.2 _ _ t_p0 0 rfl).1
                      have w5583 := (gq30.2.2 _ _ t_p0 0 rfl).1
                      have w5584 : mm_I s11 p0 0 = mm_I q2.2 p0 0 := by rw [← es11]; exact rd_k t_p0 tq5 (by decide)
                      have w5586 := rdA_fr (k := 9) (j := 1) gq28 cq30 t_p0 (κ' := 59) rfl rfl rfl
                      have w5587 := rdA_fr (k := 9) (j := 1) gq30 cs11 t_p0 (κ' := 59) rfl rfl rfl
                      have w5589 : rdA s11 p0 9 1 = mm_I s11 q17 ((1 : Int32)).toNatClampNeg := rdA_eq eq17
                      have w5588 : rdA s11 p0 9 1 = rdA q2.2 p0 9 1 := by rw [← es11]; exact rdA_k cq2 t_p0 (κ' := 59) rfl tq5 (by decide)
                      have w5590 := rdA_fr (k := 9) (j := 1) gq2 c0 t_p0 (κ' := 59) rfl rfl rfl
                      have w5592 := rdA_fr (k := 10) (j := 1) gq28 cq30 t_p0 (κ' := 60) rfl rfl rfl
                      have w5593 := rdA_fr (k := 10) (j := 1) gq30 cs11 t_p0 (κ' := 60) rfl rfl rfl
                      have w5594 : rdA s11 p0 10 1 = rdA q2.2 p0 10 1 := by rw [← es11]; exact rdA_j (by decide)
                      have w5596 : rdA q2.2 p0 10 1 = mm_I q2.2 q5 ((1 : Int32)).toNatClampNeg := rdA_eq eq5
                      have w5595 := rdA_fr (k := 10) (j := 1) gq2 c0 t_p0 (κ' := 60) rfl rfl rfl
                      have w5598 := rdA_fr (k := 10) (j := 0) gq28 cq30 t_p0 (κ' := 60) rfl rfl rfl
                      have w5599 := rdA_fr (k := 10) (j := 0) gq30 cs11 t_p0 (κ' := 60) rfl rfl rfl
                      have w5600 : rdA s11 p0 10 0 = -1 := by rw [← es11]; exact rdA_self eq5
                      have w5601 := rdA_fr (k := 9) (j := 0) gq28 cq30 t_p0 (κ' := 59) rfl rfl rfl
                      have w5602 := rdA_fr (k := 9) (j := 0) gq30 cs11 t_p0 (κ' := 59) rfl rfl rfl
                      have w5604 : rdA s11 p0 9 0 = mm_I s11 q17 ((0 : Int32)).toNatClampNeg := rdA_eq eq17
                      have w5603 : rdA s11 p0 9 0 = rdA q2.2 p0 9 0 := by rw [← es11]; exact rdA_k cq2 t_p0 (κ' := 59) rfl tq5 (by decide)
                      have w5605 := rdA_fr (k := 9) (j := 0) gq2 c0 t_p0 (κ' := 59) rfl rfl rfl
                      have w5609 : rdA q2.2 p0 10 0 = mm_I q2.2 q5 ((0 : Int32)).toNatClampNeg := rdA_eq eq5
                      have w5608 := rdA_fr (k := 10) (j := 0) gq2 c0 t_p0 (κ' := 60) rfl rfl rfl
                      have a5610 := zi_and p3 127 (by decide)
                      have a5611 := zi_and p2 8 (by decide)
                      exact sw_some ⟨cq28, fq28, (by (try simp only [zp, zo, zq] at u5318 xq2 h5319 xq12 h5332 xq14 a5352 u5353 h5354 h5355 h5356 h5357 w5358 w5359 r5360 r5361 r5362 h5363 h5384 h5509 h5556 w5582 w5583 w5584 w5586 w5587 w5589 w5588 w5590 w5592 w5593 w5594 w5596 w5595 w5598 w5599 w5600 w5601 w5602 w5604 w5603 w5605 w5609 w5608 a5610 a5611 ⊢) <;> (try simp only [zz, Int32.reduceToInt, ne_eq] at u5318 xq2 h5319 xq12 h5332 xq14 a5352 u5353 h5354 h5355 h5356 h5357 w5358 w5359 r5360 r5361 r5362 h5363 h5384 h5509 h5556 w5582 w5583 w5584 w5586 w5587 w5589 w5588 w5590 w5592 w5593 w5594 w5596 w5595 w5598 w5599 w5600 w5601 w5602 w5604 w5603 w5605 w5609 w5608 a5610 a5611 ⊢) <;> (try simp (disch := omega) only [zb] at u5318 xq2 h5319 xq12 h5332 xq14 a5352 u5353 h5354 h5355 h5356 h5357 w5358 w5359 r5360 r5361 r5362 h5363 h5384 h5509 h5556 w5582 w5583 w5584 w5586 w5587 w5589 w5588 w5590 w5592 w5593 w5594 w5596 w5595 w5598 w5599 w5600 w5601 w5602 w5604 w5603 w5605 w5609 w5608 a5610 a5611 ⊢) <;> first | omega | ((try simp (disch := omega) only [zb] at u5318 xq2 h5319 xq12 h5332 xq14 a5352 u5353 h5354 h5355 h5356 h5357 w5358 w5359 r5360 r5361 r5362 h5363 h5384 h5509 h5556 w5582 w5583 w5584 w5586 w5587 w5589 w5588 w5590 w5592 w5593 w5594 w5596 w5595 w5598 w5599 w5600 w5601 w5602 w5604 w5603 w5605 w5609 w5608 a5610 a5611 ⊢) <;> omega))⟩
            · have a5612 := zi_and p3 127 (by decide)
              refine sw_ite (fun h5613 => ?_) (fun h5613 => ?_)
              · unfold fX9_pair_227
                unfold fX9_pair_228
                have w5614 : mm_I s11 q17 ((0 : Int32).toNatClampNeg) = mm_I q2.2 q17 ((0 : Int32).toNatClampNeg) := by rw [← es11]; exact rd_k tq17 tq5 (by decide)
                have w5615 := (gq2.2.2 _ _ tq17 ((0 : Int32).toNatClampNeg) rfl).1
                have r5616 := ci_rg c0 tq17 ((0 : Int32).toNatClampNeg) (lo := (-1)) (hi := 3) rfl
                have r5617 := ci_rg cq2 tq17 ((0 : Int32).toNatClampNeg) (lo := (-1)) (hi := 3) rfl
                have r5618 := ci_rg cs11 tq17 ((0 : Int32).toNatClampNeg) (lo := (-1)) (hi := 3) rfl
                refine sw_ite (fun h5619 => ?_) (fun h5619 => ?_)
                · have w5620 : mm_I s11 p0 0 = mm_I q2.2 p0 0 := by rw [← es11]; exact rd_k t_p0 tq5 (by decide)
                  have w5623 : rdA s11 p0 9 1 = mm_I s11 q17 ((1 : Int32)).toNatClampNeg := rdA_eq eq17
                  have w5622 : rdA s11 p0 9 1 = rdA q2.2 p0 9 1 := by rw [← es11]; exact rdA_k cq2 t_p0 (κ' := 59) rfl tq5 (by decide)
                  have w5624 := rdA_fr (k := 9) (j := 1) gq2 c0 t_p0 (κ' := 59) rfl rfl rfl
                  have w5626 : rdA s11 p0 10 1 = rdA q2.2 p0 10 1 := by rw [← es11]; exact rdA_j (by decide)
                  have w5628 : rdA q2.2 p0 10 1 = mm_I q2.2 q5 ((1 : Int32)).toNatClampNeg := rdA_eq eq5
                  have w5627 := rdA_fr (k := 10) (j := 1) gq2 c0 t_p0 (κ' := 60) rfl rfl rfl
                  have w5630 : rdA s11 p0 10 0 = -1 := by rw [← es11]; exact rdA_self eq5
                  have w5632 : rdA s11 p0 9 0 = mm_I s11 q17 ((0 : Int32)).toNatClampNeg := rdA_eq eq17
                  have w5631 : rdA s11 p0 9 0 = rdA q2.2 p0 9 0 := by rw [← es11]; exact rdA_k cq2 t_p0 (κ' := 59) rfl tq5 (by decide)
                  have w5633 := rdA_fr (k := 9) (j := 0) gq2 c0 t_p0 (κ' := 59) rfl rfl rfl
                  have w5637 : rdA q2.2 p0 10 0 = mm_I q2.2 q5 ((0 : Int32)).toNatClampNeg := rdA_eq eq5
                  have w5636 := rdA_fr (k := 10) (j := 0) gq2 c0 t_p0 (κ' := 60) rfl rfl rfl
                  have a5638 := zi_and p2 8 (by decide)
                  exact sw_some ⟨cs11, fs11, (by (try simp only [zp, zo, zq] at u5318 xq2 h5319 xq12 h5332 xq14 a5352 u5353 h5354 h5355 h5356 h5357 a5612 h5613 w5614 w5615 r5616 r5617 r5618 h5619 w5620 w5623 w5622 w5624 w5626 w5628 w5627 w5630 w5632 w5631 w5633 w5637 w5636 a5638 ⊢) <;> (try simp only [zz, Int32.reduceToInt, ne_eq] at u5318 xq2 h5319 xq12 h5332 xq14 a5352 u5353 h5354 h5355 h5356 h5357 a5612 h5613 w5614 w5615 r5616 r5617 r5618 h5619 w5620 w5623 w5622 w5624 w5626 w5628 w5627 w5630 w5632 w5631 w5633 w5637 w5636 a5638 ⊢) <;> (try simp (disch := omega) only [zb] at u5318 xq2 h5319 xq12 h5332 xq14 a5352 u5353 h5354 h5355 h5356 h5357 a5612 h5613 w5614 w5615 r5616 r5617 r5618 h5619 w5620 w5623 w5622 w5624 w5626 w5628 w5627 w5630 w5632 w5631 w5633 w5637 w5636 a5638 ⊢) <;> first | omega | ((try simp (disch := omega) only [zb] at u5318 xq2 h5319 xq12 h5332 xq14 a5352 u5353 h5354 h5355 h5356 h5357 a5612 h5613 w5614 w5615 r5616 r5617 r5618 h5619 w5620 w5623 w5622 w5624 w5626 w5628 w5627 w5630 w5632 w5631 w5633 w5637 w5636 a5638 ⊢) <;> omega))⟩
                · refine sw_ite (fun h5639 => ?_) (fun h5639 => ?_)
                  · refine sw_ite (fun h5640 => ?_) (fun h5640 => ?_)
                    · have w5641 : mm_I s11 p0 0 = mm_I q2.2 p0 0 := by rw [← es11]; exact rd_k t_p0 tq5 (by decide)
                      have w5644 : rdA s11 p0 9 1 = mm_I s11 q17 ((1 : Int32)).toNatClampNeg := rdA_eq eq17
                      have w5643 : rdA s11 p0 9 1 = rdA q2.2 p0 9 1 := by rw [← es11]; exact rdA_k cq2 t_p0 (κ' := 59) rfl tq5 (by decide)
                      have w5645 := rdA_fr (k := 9) (j := 1) gq2 c0 t_p0 (κ' := 59) rfl rfl rfl
                      have w5647 : rdA s11 p0 10 1 = rdA q2.2 p0 10 1 := by rw [← es11]; exact rdA_j (by decide)
                      have w5649 : rdA q2.2 p0 10 1 = mm_I q2.2 q5 ((1 : Int32)).toNatClampNeg := rdA_eq eq5
                      have w5648 := rdA_fr (k := 10) (j := 1) gq2 c0 t_p0 (κ' := 60) rfl rfl rfl
                      have w5651 : rdA s11 p0 10 0 = -1 := by rw [← es11]; exact rdA_self eq5
                      have w5653 : rdA s11 p0 9 0 = mm_I s11 q17 ((0 : Int32)).toNatClampNeg := rdA_eq eq17
                      have w5652 : rdA s11 p0 9 0 = rdA q2.2 p0 9 0 := by rw [← es11]; exact rdA_k cq2 t_p0 (κ' := 59) rfl tq5 (by decide)
                      have w5654 := rdA_fr (k := 9) (j := 0) gq2 c0 t_p0 (κ' := 59) rfl rfl rfl
                      have w5658 : rdA q2.2 p0 10 0 = mm_I q2.2 q5 ((0 : Int32)).toNatClampNeg := rdA_eq eq5
                      have w5657 := rdA_fr (k := 10) (j := 0) gq2 c0 t_p0 (κ' := 60) rfl rfl rfl
                      have a5659 := zi_and p2 8 (by decide)
                      exact sw_some ⟨cs11, fs11, (by (try simp only [zp, zo, zq] at u5318 xq2 h5319 xq12 h5332 xq14 a5352 u5353 h5354 h5355 h5356 h5357 a5612 h5613 w5614 w5615 r5616 r5617 r5618 h5619 h5639 h5640 w5641 w5644 w5643 w5645 w5647 w5649 w5648 w5651 w5653 w5652 w5654 w5658 w5657 a5659 ⊢) <;> (try simp only [zz, Int32.reduceToInt, ne_eq] at u5318 xq2 h5319 xq12 h5332 xq14 a5352 u5353 h5354 h5355 h5356 h5357 a5612 h5613 w5614 w5615 r5616 r5617 r5618 h5619 h5639 h5640 w5641 w5644 w5643 w5645 w5647 w5649 w5648 w5651 w5653 w5652 w5654 w5658 w5657 a5659 ⊢) <;> (try simp (disch := omega) only [zb] at u5318 xq2 h5319 xq12 h5332 xq14 a5352 u5353 h5354 h5355 h5356 h5357 a5612 h5613 w5614 w5615 r5616 r5617 r5618 h5619 h5639 h5640 w5641 w5644 w5643 w5645 w5647 w5649 w5648 w5651 w5653 w5652 w5654 w5658 w5657 a5659 ⊢) <;> first | omega | ((try simp (disch := omega) only [zb] at u5318 xq2 h5319 xq12 h5332 xq14 a5352 u5353 h5354 h5355 h5356 h5357 a5612 h5613 w5614 w5615 r5616 r5617 r5618 h5619 h5639 h5640 w5641 w5644 w5643 w5645 w5647 w5649 w5648 w5651 w5653 w5652 w5654 w5658 w5657 a5659 ⊢) <;> omega))⟩
                    · unfold fX9_pair_250
                      refine sw_ite (fun h5660 => ?_) (fun h5660 => ?_)
                      · unfold fX9_pair_264
                        refine sw_ite (fun h5661 => ?_) (fun h5661 => ?_)
                        · have w5662 : mm_I s11 p0 0 = mm_I q2.2 p0 0 := by rw [← es11]; exact rd_k t_p0 tq5 (by decide)
                          have w5665 : rdA s11 p0 9 1 = mm_I s11 q17 ((1 : Int32)).toNatClampNeg := rdA_eq eq17
                          have w5664 : rdA s11 p0 9 1 = rdA q2.2 p0 9 1 := by rw [← es11]; exact rdA_k cq2 t_p0 (κ' := 59) rfl tq5 (by decide)
                          have w5666 := rdA_fr (k := 9) (j := 1) gq2 c0 t_p0 (κ' := 59) rfl rfl rfl
                          have w5668 : rdA s11 p0 10 1 = rdA q2.2 p0 10 1 := by rw [← es11]; exact rdA_j (by decide)
                          have w5670 : rdA q2.2 p0 10 1 = mm_I q2.2 q5 ((1 : Int32)).toNatClampNeg := rdA_eq eq5
                          have w5669 := rdA_fr (k := 10) (j := 1) gq2 c0 t_p0 (κ' := 60) rfl rfl rfl
                          have w5672 : rdA s11 p0 10 0 = -1 := by rw [← es11]; exact rdA_self eq5
                          have w5674 : rdA s11 p0 9 0 = mm_I s11 q17 ((0 : Int32)).toNatClampNeg := rdA_eq eq17
                          have w5673 : rdA s11 p0 9 0 = rdA q2.2 p0 9 0 := by rw [← es11]; exact rdA_k cq2 t_p0 (κ' := 59) rfl tq5 (by decide)
                          have w5675 := rdA_fr (k := 9) (j := 0) gq2 c0 t_p0 (κ' := 59) rfl rfl rfl
                          have w5679 : rdA q2.2 p0 10 0 = mm_I q2.2 q5 ((0 : Int32)).toNatClampNeg := rdA_eq eq5
                          have w5678 := rdA_fr (k := 10) (j := 0) gq2 c0 t_p0 (κ' := 60) rfl rfl rfl
                          have a5680 := zi_and p2 8 (by decide)
                          exact sw_some ⟨cs11, fs11, (by (try simp only [zp, zo, zq] at u5318 xq2 h5319 xq12 h5332 xq14 a5352 u5353 h5354 h5355 h5356 h5357 a5612 h5613 w5614 w5615 r5616 r5617 r5618 h5619 h5639 h5640 h5660 h5661 w5662 w5665 w5664 w5666 w5668 w5670 w5669 w5672 w5674 w5673 w5675 w5679 w5678 a5680 ⊢) <;> (try simp only [zz, Int32.reduceToInt, ne_eq] at u5318 xq2 h5319 xq12 h5332 xq14 a5352 u5353 h5354 h5355 h5356 h5357 a5612 h5613 w5614 w5615 r5616 r5617 r5618 h5619 h5639 h5640 h5660 h5661 w5662 w5665 w5664 w5666 w5668 w5670 w5669 w5672 w5674 w5673 w5675 w5679 w5678 a5680 ⊢) <;> (try simp (disch := omega) only [zb] at u5318 xq2 h5319 xq12 h5332 xq14 a5352 u5353 h5354 h5355 h5356 h5357 a5612 h5613 w5614 w5615 r5616 r5617 r5618 h5619 h5639 h5640 h5660 h5661 w5662 w5665 w5664 w5666 w5668 w5670 w5669 w5672 w5674 w5673 w5675 w5679 w5678 a5680 ⊢) <;> first | omega | ((try simp (disch := omega) only [zb] at u5318 xq2 h5319 xq12 h5332 xq14 a5352 u5353 h5354 h5355 h5356 h5357 a5612 h5613 w5614 w5615 r5616 r5617 r5618 h5619 h5639 h5640 h5660 h5661 w5662 w5665 w5664 w5666 w5668 w5670 w5669 w5672 w5674 w5673 w5675 w5679 w5678 a5680 ⊢) <;> omega))⟩
                        · refine sw_sh (ci_sh cs11 t_p0 rfl) ?_
                          refine sw_on (sX9_put cs11 t_p0 (by (try simp only [zp, zo, zq] at u5318 xq2 h5319 xq12 h5332 xq14 a5352 u5353 h5354 h5355 h5356 h5357 a5612 h5613 w5614 w5615 r5616 r5617 r5618 h5619 h5639 h5640 h5660 h5661 ⊢) <;> (try simp only [zz, Int32.reduceToInt, ne_eq] at u5318 xq2 h5319 xq12 h5332 xq14 a5352 u5353 h5354 h5355 h5356 h5357 a5612 h5613 w5614 w5615 r5616 r5617 r5618 h5619 h5639 h5640 h5660 h5661 ⊢) <;> (try simp (disch := omega) only [zb] at u5318 xq2 h5319 xq12 h5332 xq14 a5352 u5353 h5354 h5355 h5356 h5357 a5612 h5613 w5614 w5615 r5616 r5617 r5618 h5619 h5639 h5640 h5660 h5661 ⊢) <;> first | omega | ((try simp (disch := omega) only [zb] at u5318 xq2 h5319 xq12 h5332 xq14 a5352 u5353 h5354 h5355 h5356 h5357 a5612 h5613 w5614 w5615 r5616 r5617 r5618 h5619 h5639 h5640 h5660 h5661 ⊢) <;> omega)) ) ?_
                          intro q28 hqq28
                          obtain ⟨cq28, gq28, xq28⟩ := hqq28
                          have fq28 := fr_trans fs11 gq28 rfl
                          have w5681 := (gq28.2.2 _ _ t_p0 0 rfl).1
                          have w5682 : mm_I s11 p0 0 = mm_I q2.2 p0 0 := by rw [← es11]; exact rd_k t_p0 tq5 (by decide)
                          have w5684 := rdA_fr (k := 9) (j := 1) gq28 cs11 t_p0 (κ' := 59) rfl rfl rfl
                          have w5686 : rdA s11 p0 9 1 = mm_I s11 q17 ((1 : Int32)).toNatClampNeg := rdA_eq eq17
                          have w5685 : rdA s11 p0 9 1 = rdA q2.2 p0 9 1 := by rw [← es11]; exact rdA_k cq2 t_p0 (κ' := 59) rfl tq5 (by decide)
                          have w5687 := rdA_fr (k := 9) (j := 1) gq2 c0 t_p0 (κ' := 59) rfl rfl rfl
                          have w5689 := rdA_fr (k := 10) (j := 1) gq28 cs11 t_p0 (κ' := 60) rfl rfl rfl
                          have w5690 : rdA s11 p0 10 1 = rdA q2.2 p0 10 1 := by rw [← es11]; exact rdA_j (by decide)
                          have w5692 : rdA q2.2 p0 10 1 = mm_I q2.2 q5 ((1 : Int32)).toNatClampNeg := rdA_eq eq5
                          have w5691 := rdA_fr (k := 10) (j := 1) gq2 c0 t_p0 (κ' := 60) rfl rfl rfl
                          have w5694 := rdA_fr (k := 10) (j := 0) gq28 cs11 t_p0 (κ' := 60) rfl rfl rfl
                          have w5695 : rdA s11 p0 10 0 = -1 := by rw [← es11]; exact rdA_self eq5
                          have w5696 := rdA_fr (k := 9) (j := 0) gq28 cs11 t_p0 (κ' := 59) rfl rfl rfl
                          have w5698 : rdA s11 p0 9 0 = mm_I s11 q17 ((0 : Int32)).toNatClampNeg := rdA_eq eq17
                          have w5697 : rdA s11 p0 9 0 = rdA q2.2 p0 9 0 := by rw [← es11]; exact rdA_k cq2 t_p0 (κ' := 59) rfl tq5 (by decide)
                          have w5699 := rdA_fr (k := 9) (j := 0) gq2 c0 t_p0 (κ' := 59) rfl rfl rfl
                          have w5703 : rdA q2.2 p0 10 0 = mm_I q2.2 q5 ((0 : Int32)).toNatClampNeg := rdA_eq eq5
                          have w5702 := rdA_fr (k := 10) (j := 0) gq2 c0 t_p0 (κ' := 60) rfl rfl rfl
                          have a5704 := zi_and p2 8 (by decide)
                          exact sw_some ⟨cq28, fq28, (by (try simp only [zp, zo, zq] at u5318 xq2 h5319 xq12 h5332 xq14 a5352 u5353 h5354 h5355 h5356 h5357 a5612 h5613 w5614 w5615 r5616 r5617 r5618 h5619 h5639 h5640 h5660 h5661 w5681 w5682 w5684 w5686 w5685 w5687 w5689 w5690 w5692 w5691 w5694 w5695 w5696 w5698 w5697 w5699 w5703 w5702 a5704 ⊢) <;> (try simp only [zz, Int32.reduceToInt, ne_eq] at u5318 xq2 h5319 xq12 h5332 xq14 a5352 u5353 h5354 h5355 h5356 h5357 a5612 h5613 w5614 w5615 r5616 r5617 r5618 h5619 h5639 h5640 h5660 h5661 w5681 w5682 w5684 w5686 w5685 w5687 w5689 w5690 w5692 w5691 w5694 w5695 w5696 w5698 w5697 w5699 w5703 w5702 a5704 ⊢) <;> (try simp (disch := omega) only [zb] at u5318 xq2 h5319 xq12 h5332 xq14 a5352 u5353 h5354 h5355 h5356 h5357 a5612 h5613 w5614 w5615 r5616 r5617 r5618 h5619 h5639 h5640 h5660 h5661 w5681 w5682 w5684 w5686 w5685 w5687 w5689 w5690 w5692 w5691 w5694 w5695 w5696 w5698 w5697 w5699 w5703 w5702 a5704 ⊢) <;> first | omega | ((try simp (disch := omega) only [zb] at u5318 xq2 h5319 xq12 h5332 xq14 a5352 u5353 h5354 h5355 h5356 h5357 a5612 h5613 w5614 w5615 r5616 r5617 r5618 h5619 h5639 h5640 h5660 h5661 w5681 w5682 w5684 w5686 w5685 w5687 w5689 w5690 w5692 w5691 w5694 w5695 w5696 w5698 w5697 w5699 w5703 w5702 a5704 ⊢) <;> omega))⟩
                      · refine sw_sh (ci_sh cs11 t_p0 rfl) ?_
                        refine sw_on (sX9_put cs11 t_p0 (by (try simp only [zp, zo, zq] at u5318 xq2 h5319 xq12 h5332 xq14 a5352 u5353 h5354 h5355 h5356 h5357 a5612 h5613 w5614 w5615 r5616 r5617 r5618 h5619 h5639 h5640 h5660 ⊢) <;> (try simp only [zz, Int32.reduceToInt, ne_eq] at u5318 xq2 h5319 xq12 h5332 xq14 a5352 u5353 h5354 h5355 h5356 h5357 a5612 h5613 w5614 w5615 r5616 r5617 r5618 h5619 h5639 h5640 h5660 ⊢) <;> (try simp (disch := omega) only [zb] at u5318 xq2 h5319 xq12 h5332 xq14 a5352 u5353 h5354 h5355 h5356 h5357 a5612 h5613 w5614 w5615 r5616 r5617 r5618 h5619 h5639 h5640 h5660 ⊢) <;> first | omega | ((try simp (disch := omega) only [zb] at u5318 xq2 h5319 xq12 h5332 xq14 a5352 u5353 h5354 h5355 h5356 h5357 a5612 h5613 w5614 w5615 r5616 r5617 r5618 h5619 h5639 h5640 h5660 ⊢) <;> omega)) ) ?_
                        intro q30 hqq30
                        obtain ⟨cq30, gq30, xq30⟩ := hqq30
                        have fq30 := fr_trans fs11 gq30 rfl
                        unfold fX9_pair_264
                        refine sw_ite (fun h5705 => ?_) (fun h5705 => ?_)
                        · have w5706 := (gq30.2.2 _ _ t_p0 0 rfl).1
                          have w5707 : mm_I s11 p0 0 = mm_I q2.2 p0 0 := by rw [← es11]; exact rd_k t_p0 tq5 (by decide)
                          have w5709 := rdA_fr (k := 9) (j := 1) gq30 cs11 t_p0 (κ' := 59) rfl rfl rfl
                          have w5711 : rdA s11 p0 9 1 = mm_I s11 q17 ((1 : Int32)).toNatClampNeg := rdA_eq eq17
                          have w5710 : rdA s11 p0 9 1 = rdA q2.2 p0 9 1 := by rw [← es11]; exact rdA_k cq2 t_p0 (κ' := 59) rfl tq5 (by decide)
                          have w5712 := rdA_fr (k := 9) (j := 1) gq2 c0 t_p0 (κ' := 59) rfl rfl rfl
                          have w5714 := rdA_fr (k := 10) (j := 1) gq30 cs11 t_p0 (κ' := 60) rfl rfl rfl
                          have w5715 : rdA s11 p0 10 1 = rdA q2.2 p0 10 1 := by rw [← es11]; exact rdA_j (by decide)
                          have w5717 : rdA q2.2 p0 10 1 = mm_I q2.2 q5 ((1 : Int32)).toNatClampNeg := rdA_eq eq5
                          have w5716 := rdA_fr (k := 10) (j := 1) gq2 c0 t_p0 (κ' := 60) rfl rfl rfl
                          have w5719 := rdA_fr (k := 10) (j := 0) gq30 cs11 t_p0 (κ' := 60) rfl rfl rfl
                          have w5720 : rdA s11 p0 10 0 = -1 := by rw [← es11]; exact rdA_self eq5
                          have w5721 := rdA_fr (k := 9) (j := 0) gq30 cs11 t_p0 (κ' := 59) rfl rfl rfl
                          have w5723 : rdA s11 p0 9 0 = mm_I s11 q17 ((0 : Int32)).toNatClampNeg := rdA_eq eq17
                          have w5722 : rdA s11 p0 9 0 = rdA q2.2 p0 9 0 := by rw [← es11]; exact rdA_k cq2 t_p0 (κ' := 59) rfl tq5 (by decide)
                          have w5724 := rdA_fr (k := 9) (j := 0) gq2 c0 t_p0 (κ' := 59) rfl rfl rfl
                          have w5728 : rdA q2.2 p0 10 0 = mm_I q2.2 q5 ((0 : Int32)).toNatClampNeg := rdA_eq eq5
                          have w5727 := rdA_fr (k := 10) (j := 0) gq2 c0 t_p0 (κ' := 60) rfl rfl rfl
                          have a5729 := zi_and p2 8 (by decide)
                          exact sw_some ⟨cq30, fq30, (by (try simp only [zp, zo, zq] at u5318 xq2 h5319 xq12 h5332 xq14 a5352 u5353 h5354 h5355 h5356 h5357 a5612 h5613 w5614 w5615 r5616 r5617 r5618 h5619 h5639 h5640 h5660 h5705 w5706 w5707 w5709 w5711 w5710 w5712 w5714 w5715 w5717 w5716 w5719 w5720 w5721 w5723 w5722 w5724 w5728 w5727 a5729 ⊢) <;> (try simp only [zz, Int32.reduceToInt, ne_eq] at u5318 xq2 h5319 xq12 h5332 xq14 a5352 u5353 h5354 h5355 h5356 h5357 a5612 h5613 w5614 w5615 r5616 r5617 r5618 h5619 h5639 h5640 h5660 h5705 w5706 w5707 w5709 w5711 w5710 w5712 w5714 w5715 w5717 w5716 w5719 w5720 w5721 w5723 w5722 w5724 w5728 w5727 a5729 ⊢) <;> (try simp (disch := omega) only [zb] at u5318 xq2 h5319 xq12 h5332 xq14 a5352 u5353 h5354 h5355 h5356 h5357 a5612 h5613 w5614 w5615 r5616 r5617 r5618 h5619 h5639 h5640 h5660 h5705 w5706 w5707 w5709 w5711 w5710 w5712 w5714 w5715 w5717 w5716 w5719 w5720 w5721 w5723 w5722 w5724 w5728 w5727 a5729 ⊢) <;> first | omega | ((try simp (disch := omega) only [zb] at u5318 xq2 h5319 xq12 h5332 xq14 a5352 u5353 h5354 h5355 h5356 h5357 a5612 h5613 w5614 w5615 r5616 r5617 r5618 h5619 h5639 h5640 h5660 h5705 w5706 w5707 w5709 w5711 w5710 w5712 w5714 w5715 w5717 w5716 w5719 w5720 w5721 w5723 w5722 w5724 w5728 w5727 a5729 ⊢) <;> omega))⟩
                        · refine sw_sh (ci_sh cq30 t_p0 rfl) ?_
                          refine sw_on (sX9_put cq30 t_p0 (by (try simp only [zp, zo, zq] at u5318 xq2 h5319 xq12 h5332 xq14 a5352 u5353 h5354 h5355 h5356 h5357 a5612 h5613 w5614 w5615 r5616 r5617 r5618 h5619 h5639 h5640 h5660 h5705 ⊢) <;> (try simp only [zz, Int32.reduceToInt, ne_eq] at u5318 xq2 h5319 xq12 h5332 xq14 a5352 u5353 h5354 h5355 h5356 h5357 a5612 h5613 w5614 w5615 r5616 r5617 r5618 h5619 h5639 h5640 h5660 h5705 ⊢) <;> (try simp (disch := omega) only [zb] at u5318 xq2 h5319 xq12 h5332 xq14 a5352 u5353 h5354 h5355 h5356 h5357 a5612 h5613 w5614 w5615 r5616 r5617 r5618 h5619 h5639 h5640 h5660 h5705 ⊢) <;> first | omega | ((try simp (disch := omega) only [zb] at u5318 xq2 h5319 xq12 h5332 xq14 a5352 u5353 h5354 h5355 h5356 h5357 a5612 h5613 w5614 w5615 r5616 r5617 r5618 h5619 h5639 h5640 h5660 h5705 ⊢) <;> omega)) ) ?_
                          intro q28 hqq28
                          obtain ⟨cq28, gq28, xq28⟩ := hqq28
                          have fq28 := fr_trans fq30 gq28 rfl
                          have w5730 := (gq28.2.2 _ _ t_p0 0 rfl).1
                          have w5731 := (gq30.2.2 _ _ t_p0 0 rfl).1
                          have w5732 : mm_I s11 p0 0 = mm_I q2.2 p0 0 := by rw [← es11]; exact rd_k t_p0 tq5 (by decide)
                          have w5734 := rdA_fr (k := 9) (j := 1) gq28 cq30 t_p0 (κ' := 59) rfl rfl rfl
                          have w5735 := rdA_fr (k := 9) (j := 1) gq30 cs11 t_p0 (κ' := 59) rfl rfl rfl
                          have w5737 : rdA s11 p0 9 1 = mm_I s11 q17 ((1 : Int32)).toNatClampNeg := rdA_eq eq17
                          have w5736 : rdA s11 p0 9 1 = rdA q2.2 p0 9 1 := by rw [← es11]; exact rdA_k cq2 t_p0 (κ' := 59) rfl tq5 (by decide)
                          have w5738 := rdA_fr (k := 9) (j := 1) gq2 c0 t_p0 (κ' := 59) rfl rfl rfl
                          have w5740 := rdA_fr (k := 10) (j := 1) gq28 cq30 t_p0 (κ' := 60) rfl rfl rfl
                          have w5741 := rdA_fr (k := 10) (j := 1) gq30 cs11 t_p0 (κ' := 60) rfl rfl rfl
                          have w5742 : rdA s11 p0 10 1 = rdA q2.2 p0 10 1 := by rw [← es11]; exact rdA_j (by decide)
                          have w5744 : rdA q2.2 p0 10 1 = mm_I q2.2 q5 ((1 : Int32)).toNatClampNeg := rdA_eq eq5
                          have w5743 := rdA_fr (k := 10) (j := 1) gq2 c0 t_p0 (κ' := 60) rfl rfl rfl
                          have w5746 := rdA_fr (k := 10) (j := 0) gq28 cq30 t_p0 (κ' := 60) rfl rfl rfl
                          have w5747 := rdA_fr (k := 10) (j := 0) gq30 cs11 t_p0 (κ' := 60) rfl rfl rfl
                          have w5748 : rdA s11 p0 10 0 = -1 := by rw [← es11]; exact rdA_self eq5
                          have w5749 := rdA_fr (k := 9) (j := 0) gq28 cq30 t_p0 (κ' := 59) rfl rfl rfl
                          have w5750 := rdA_fr (k := 9) (j := 0) gq30 cs11 t_p0 (κ' := 59) rfl rfl rfl
                          have w5752 : rdA s11 p0 9 0 = mm_I s11 q17 ((0 : Int32)).toNatClampNeg := rdA_eq eq17
                          have w5751 : rdA s11 p0 9 0 = rdA q2.2 p0 9 0 := by rw [← es11]; exact rdA_k cq2 t_p0 (κ' := 59) rfl tq5 (by decide)
                          have w5753 := rdA_fr (k := 9) (j := 0) gq2 c0 t_p0 (κ' := 59) rfl rfl rfl
                          have w5757 : rdA q2.2 p0 10 0 = mm_I q2.2 q5 ((0 : Int32)).toNatClampNeg := rdA_eq eq5
                          have w5756 := rdA_fr (k := 10) (j := 0) gq2 c0 t_p0 (κ' := 60) rfl rfl rfl
                          have a5758 := zi_and p2 8 (by decide)
                          exact sw_some ⟨cq28, fq28, (by (try simp only [zp, zo, zq] at u5318 xq2 h5319 xq12 h5332 xq14 a5352 u5353 h5354 h5355 h5356 h5357 a5612 h5613 w5614 w5615 r5616 r5617 r5618 h5619 h5639 h5640 h5660 h5705 w5730 w5731 w5732 w5734 w5735 w5737 w5736 w5738 w5740 w5741 w5742 w5744 w5743 w5746 w5747 w5748 w5749 w5750 w5752 w5751 w5753 w5757 w5756 a5758 ⊢) <;> (try simp only [zz, Int32.reduceToInt, ne_eq] at u5318 xq2 h5319 xq12 h5332 xq14 a5352 u5353 h5354 h5355 h5356 h5357 a5612 h5613 w5614 w5615 r5616 r5617 r5618 h5619 h5639 h5640 h5660 h5705 w5730 w5731 w5732 w5734 w5735 w5737 w5736 w5738 w5740 w5741 w5742 w5744 w5743 w5746 w5747 w5748 w5749 w5750 w5752 w5751 w5753 w5757 w5756 a5758 ⊢) <;> (try simp (disch := omega) only [zb] at u5318 xq2 h5319 xq12 h5332 xq14 a5352 u5353 h5354 h5355 h5356 h5357 a5612 h5613 w5614 w5615 r5616 r5617 r5618 h5619 h5639 h5640 h5660 h5705 w5730 w5731 w5732 w5734 w5735 w5737 w5736 w5738 w5740 w5741 w5742 w5744 w5743 w5746 w5747 w5748 w5749 w5750 w5752 w5751 w5753 w5757 w5756 a5758 ⊢) <;> first | omega | ((try simp (disch := omega) only [zb] at u5318 xq2 h5319 xq12 h5332 xq14 a5352 u5353 h5354 h5355 h5356 h5357 a5612 h5613 w5614 w5615 r5616 r5617 r5618 h5619 h5639 h5640 h5660 h5705 w5730 w5731 w5732 w5734 w5735 w5737 w5736 w5738 w5740 w5741 w5742 w5744 w5743 w5746 w5747 w5748 w5749 w5750 w5752 w5751 w5753 w5757 w5756 a5758 ⊢) <;> omega))⟩
                  · unfold fX9_pair_250
                    refine sw_ite (fun h5759 => ?_) (fun h5759 => ?_)
                    · unfold fX9_pair_264
                      refine sw_ite (fun h5760 => ?_) (fun h5760 => ?_)
                      · have w5761 : mm_I s11 p0 0 = mm_I q2.2 p0 0 := by rw [← es11]; exact rd_k t_p0 tq5 (by decide)
                        have w5764 : rdA s11 p0 9 1 = mm_I s11 q17 ((1 : Int32)).toNatClampNeg := rdA_eq eq17
                        have w5763 : rdA s11 p0 9 1 = rdA q2.2 p0 9 1 := by rw [← es11]; exact rdA_k cq2 t_p0 (κ' := 59) rfl tq5 (by decide)
                        have w5765 := rdA_fr (k := 9) (j := 1) gq2 c0 t_p0 (κ' := 59) rfl rfl rfl
                        have w5767 : rdA s11 p0 10 1 = rdA q2.2 p0 10 1 := by rw [← es11]; exact rdA_j (by decide)
                        have w5769 : rdA q2.2 p0 10 1 = mm_I q2.2 q5 ((1 : Int32)).toNatClampNeg := rdA_eq eq5
                        have w5768 := rdA_fr (k := 10) (j := 1) gq2 c0 t_p0 (κ' := 60) rfl rfl rfl
                        have w5771 : rdA s11 p0 10 0 = -1 := by rw [← es11]; exact rdA_self eq5
                        have w5773 : rdA s11 p0 9 0 = mm_I s11 q17 ((0 : Int32)).toNatClampNeg := rdA_eq eq17
                        have w5772 : rdA s11 p0 9 0 = rdA q2.2 p0 9 0 := by rw [← es11]; exact rdA_k cq2 t_p0 (κ' := 59) rfl tq5 (by decide)
                        have w5774 := rdA_fr (k := 9) (j := 0) gq2 c0 t_p0 (κ' := 59) rfl rfl rfl
                        have w5778 : rdA q2.2 p0 10 0 = mm_I q2.2 q5 ((0 : Int32)).toNatClampNeg := rdA_eq eq5
                        have w5777 := rdA_fr (k := 10) (j := 0) gq2 c0 t_p0 (κ' := 60) rfl rfl rfl
                        have a5779 := zi_and p2 8 (by decide)
                        exact sw_some ⟨cs11, fs11, (by (try simp only [zp, zo, zq] at u5318 xq2 h5319 xq12 h5332 xq14 a5352 u5353 h5354 h5355 h5356 h5357 a5612 h5613 w5614 w5615 r5616 r5617 r5618 h5619 h5639 h5759 h5760 w5761 w5764 w5763 w5765 w5767 w5769 w5768 w5771 w5773 w5772 w5774 w5778 w5777 a5779 ⊢) <;> (try simp only [zz, Int32.reduceToInt, ne_eq] at u5318 xq2 h5319 xq12 h5332 xq14 a5352 u5353 h5354 h5355 h5356 h5357 a5612 h5613 w5614 w5615 r5616 r5617 r5618 h5619 h5639 h5759 h5760 w5761 w5764 w5763 w5765 w5767 w5769 w5768 w5771 w5773 w5772 w5774 w5778 w5777 a5779 ⊢) <;> (try simp (disch := omega) only [zb] at u5318 xq2 h5319 xq12 h5332 xq14 a5352 u5353 h5354 h5355 h5356 h5357 a5612 h5613 w5614 w5615 r5616 r5617 r5618 h5619 h5639 h5759 h5760 w5761 w5764 w5763 w5765 w5767 w5769 w5768 w5771 w5773 w5772 w5774 w5778 w5777 a5779 ⊢) <;> first | omega | ((try simp (disch := omega) only [zb] at u5318 xq2 h5319 xq12 h5332 xq14 a5352 u5353 h5354 h5355 h5356 h5357 a5612 h5613 w5614 w5615 r5616 r5617 r5618 h5619 h5639 h5759 h5760 w5761 w5764 w5763 w5765 w5767 w5769 w5768 w5771 w5773 w5772 w5774 w5778 w5777 a5779 ⊢) <;> omega))⟩
                      · refine sw_sh (ci_sh cs11 t_p0 rfl) ?_
                        refine sw_on (sX9_put cs11 t_p0 (by (try simp only [zp, zo, zq] at u5318 xq2 h5319 xq12 h5332 xq14 a5352 u5353 h5354 h5355 h5356 h5357 a5612 h5613 w5614 w5615 r5616 r5617 r5618 h5619 h5639 h5759 h5760 ⊢) <;> (try simp only [zz, Int32.reduceToInt, ne_eq] at u5318 xq2 h5319 xq12 h5332 xq14 a5352 u5353 h5354 h5355 h5356 h5357 a5612 h5613 w5614 w5615 r5616 r5617 r5618 h5619 h5639 h5759 h5760 ⊢) <;> (try simp (disch := omega) only [zb] at u5318 xq2 h5319 xq12 h5332 xq14 a5352 u5353 h5354 h5355 h5356 h5357 a5612 h5613 w5614 w5615 r5616 r5617 r5618 h5619 h5639 h5759 h5760 ⊢) <;> first | omega | ((try simp (disch := omega) only [zb] at u5318 xq2 h5319 xq12 h5332 xq14 a5352 u5353 h5354 h5355 h5356 h5357 a5612 h5613 w5614 w5615 r5616 r5617 r5618 h5619 h5639 h5759 h5760 ⊢) <;> omega)) ) ?_
                        intro q28 hqq28
                        obtain ⟨cq28, gq28, xq28⟩ := hqq28
                        have fq28 := fr_trans fs11 gq28 rfl
                        have w5780 := (gq28.2.2 _ _ t_p0 0 rfl).1
                        have w5781 : mm_I s11 p0 0 = mm_I q2.2 p0 0 := by rw [← es11]; exact rd_k t_p0 tq5 (by decide)
                        have w5783 := rdA_fr (k := 9) (j := 1) gq28 cs11 t_p0 (κ' := 59) rfl rfl rfl
                        have w5785 : rdA s11 p0 9 1 = mm_I s11 q17 ((1 : Int32)).toNatClampNeg := rdA_eq eq17
                        have w5784 : rdA s11 p0 9 1 = rdA q2.2 p0 9 1 := by rw [← es11]; exact rdA_k cq2 t_p0 (κ' := 59) rfl tq5 (by decide)
                        have w5786 := rdA_fr (k := 9) (j := 1) gq2 c0 t_p0 (κ' := 59) rfl rfl rfl
                        have w5788 := rdA_fr (k := 10) (j := 1) gq28 cs11 t_p0 (κ' := 60) rfl rfl rfl
                        have w5789 : rdA s11 p0 10 1 = rdA q2.2 p0 10 1 := by rw [← es11]; exact rdA_j (by decide)
                        have w5791 : rdA q2.2 p0 10 1 = mm_I q2.2 q5 ((1 : Int32)).toNatClampNeg := rdA_eq eq5
                        have w5790 := rdA_fr (k := 10) (j := 1) gq2 c0 t_p0 (κ' := 60) rfl rfl rfl
                        have w5793 := rdA_fr (k := 10) (j := 0) gq28 cs11 t_p0 (κ' := 60) rfl rfl rfl
                        have w5794 : rdA s11 p0 10 0 = -1 := by rw [← es11]; exact rdA_self eq5
                        have w5795 := rdA_fr (k := 9) (j := 0) gq28 cs11 t_p0 (κ' := 59) rfl rfl rfl
                        have w5797 : rdA s11 p0 9 0 = mm_I s11 q17 ((0 : Int32)).toNatClampNeg := rdA_eq eq17
                        have w5796 : rdA s11 p0 9 0 = rdA q2.2 p0 9 0 := by rw [← es11]; exact rdA_k cq2 t_p0 (κ' := 59) rfl tq5 (by decide)
                        have w5798 := rdA_fr (k := 9) (j := 0) gq2 c0 t_p0 (κ' := 59) rfl rfl rfl
                        have w5802 : rdA q2.2 p0 10 0 = mm_I q2.2 q5 ((0 : Int32)).toNatClampNeg := rdA_eq eq5
                        have w5801 := rdA_fr (k := 10) (j := 0) gq2 c0 t_p0 (κ' := 60) rfl rfl rfl
                        have a5803 := zi_and p2 8 (by decide)
                        exact sw_some ⟨cq28, fq28, (by (try simp only [zp, zo, zq] at u5318 xq2 h5319 xq12 h5332 xq14 a5352 u5353 h5354 h5355 h5356 h5357 a5612 h5613 w5614 w5615 r5616 r5617 r5618 h5619 h5639 h5759 h5760 w5780 w5781 w5783 w5785 w5784 w5786 w5788 w5789 w5791 w5790 w5793 w5794 w5795 w5797 w5796 w5798 w5802 w5801 a5803 ⊢) <;> (try simp only [zz, Int32.reduceToInt, ne_eq] at u5318 xq2 h5319 xq12 h5332 xq14 a5352 u5353 h5354 h5355 h5356 h5357 a5612 h5613 w5614 w5615 r5616 r5617 r5618 h5619 h5639 h5759 h5760 w5780 w5781 w5783 w5785 w5784 w5786 w5788 w5789 w5791 w5790 w5793 w5794 w5795 w5797 w5796 w5798 w5802 w5801 a5803 ⊢) <;> (try simp (disch := omega) only [zb] at u5318 xq2 h5319 xq12 h5332 xq14 a5352 u5353 h5354 h5355 h5356 h5357 a5612 h5613 w5614 w5615 r5616 r5617 r5618 h5619 h5639 h5759 h5760 w5780 w5781 w5783 w5785 w5784 w5786 w5788 w5789 w5791 w5790 w5793 w5794 w5795 w5797 w5796 w5798 w5802 w5801 a5803 ⊢) <;> first | omega | ((try simp (disch := omega) only [zb] at u5318 xq2 h5319 xq12 h5332 xq14 a5352 u5353 h5354 h5355 h5356 h5357 a5612 h5613 w5614 w5615 r5616 r5617 r5618 h5619 h5639 h5759 h5760 w5780 w5781 w5783 w5785 w5784 w5786 w5788 w5789 w5791 w5790 w5793 w5794 w5795 w5797 w5796 w5798 w5802 w5801 a5803 ⊢) <;> omega))⟩
                    · refine sw_sh (ci_sh cs11 t_p0 rfl) ?_
                      refine sw_on (sX9_put cs11 t_p0 (by (try simp only [zp, zo, zq] at u5318 xq2 h5319 xq12 h5332 xq14 a5352 u5353 h5354 h5355 h5356 h5357 a5612 h5613 w5614 w5615 r5616 r5617 r5618 h5619 h5639 h5759 ⊢) <;> (try simp only [zz, Int32.reduceToInt, ne_eq] at u5318 xq2 h5319 xq12 h5332 xq14 a5352 u5353 h5354 h5355 h5356 h5357 a5612 h5613 w5614 w5615 r5616 r5617 r5618 h5619 h5639 h5759 ⊢) <;> (try simp (disch := omega) only [zb] at u5318 xq2 h5319 xq12 h5332 xq14 a5352 u5353 h5354 h5355 h5356 h5357 a5612 h5613 w5614 w5615 r5616 r5617 r5618 h5619 h5639 h5759 ⊢) <;> first | omega | ((try simp (disch := omega) only [zb] at u5318 xq2 h5319 xq12 h5332 xq14 a5352 u5353 h5354 h5355 h5356 h5357 a5612 h5613 w5614 w5615 r5616 r5617 r5618 h5619 h5639 h5759 ⊢) <;> omega)) ) ?_
                      intro q30 hqq30
                      obtain ⟨cq30, gq30, xq30⟩ := hqq30
                      have fq30 := fr_trans fs11 gq30 rfl
                      unfold fX9_pair_264
                      refine sw_ite (fun h5804 => ?_) (fun h5804 => ?_)
                      · have w5805 := (gq30.2.2 _ _ t_p0 0 rfl).1
                        have w5806 : mm_I s11 p0 0 = mm_I q2.2 p0 0 := by rw [← es11]; exact rd_k t_p0 tq5 (by decide)
                        have w5808 := rdA_fr (k := 9) (j := 1) gq30 cs11 t_p0 (κ' := 59) rfl rfl rfl
                        have w5810 : rdA s11 p0 9 1 = mm_I s11 q17 ((1 : Int32)).toNatClampNeg := rdA_eq eq17
                        have w5809 : rdA s11 p0 9 1 = rdA q2.2 p0 9 1 := by rw [← es11]; exact rdA_k cq2 t_p0 (κ' := 59) rfl tq5 (by decide)
                        have w5811 := rdA_fr (k := 9) (j := 1) gq2 c0 t_p0 (κ' := 59) rfl rfl rfl
                        have w5813 := rdA_fr (k := 10) (j := 1) gq30 cs11 t_p0 (κ' := 60) rfl rfl rfl
                        have w5814 : rdA s11 p0 10 1 = rdA q2.2 p0 10 1 := by rw [← es11]; exact rdA_j (by decide)
                        have w5816 : rdA q2.2 p0 10 1 = mm_I q2.2 q5 ((1 : Int32)).toNatClampNeg := rdA_eq eq5
                        have w5815 := rdA_fr (k := 10) (j := 1) gq2 c0 t_p0 (κ' := 60) rfl rfl rfl
                        have w5818 := rdA_fr (k := 10) (j := 0) gq30 cs11 t_p0 (κ' := 60) rfl rfl rfl
                        have w5819 : rdA s11 p0 10 0 = -1 := by rw [← es11]; exact rdA_self eq5
                        have w5820 := rdA_fr (k := 9) (j := 0) gq30 cs11 t_p0 (κ' := 59) rfl rfl rfl
                        have w5822 : rdA s11 p0 9 0 = mm_I s11 q17 ((0 : Int32)).toNatClampNeg := rdA_eq eq17
                        have w5821 : rdA s11 p0 9 0 = rdA q2.2 p0 9 0 := by rw [← es11]; exact rdA_k cq2 t_p0 (κ' := 59) rfl tq5 (by decide)
                        have w5823 := rdA_fr (k := 9) (j := 0) gq2 c0 t_p0 (κ' := 59) rfl rfl rfl
                        have w5827 : rdA q2.2 p0 10 0 = mm_I q2.2 q5 ((0 : Int32)).toNatClampNeg := rdA_eq eq5
                        have w5826 := rdA_fr (k := 10) (j := 0) gq2 c0 t_p0 (κ' := 60) rfl rfl rfl
                        have a5828 := zi_and p2 8 (by decide)
                        exact sw_some ⟨cq30, fq30, (by (try simp only [zp, zo, zq] at u5318 xq2 h5319 xq12 h5332 xq14 a5352 u5353 h5354 h5355 h5356 h5357 a5612 h5613 w5614 w5615 r5616 r5617 r5618 h5619 h5639 h5759 h5804 w5805 w5806 w5808 w5810 w5809 w5811 w5813 w5814 w5816 w5815 w5818 w5819 w5820 w5822 w5821 w5823 w5827 w5826 a5828 ⊢) <;> (try simp only [zz, Int32.reduceToInt, ne_eq] at u5318 xq2 h5319 xq12 h5332 xq14 a5352 u5353 h5354 h5355 h5356 h5357 a5612 h5613 w5614 w5615 r5616 r5617 r5618 h5619 h5639 h5759 h5804 w5805 w5806 w5808 w5810 w5809 w5811 w5813 w5814 w5816 w5815 w5818 w5819 w5820 w5822 w5821 w5823 w5827 w5826 a5828 ⊢) <;> (try simp (disch := omega) only [zb] at u5318 xq2 h5319 xq12 h5332 xq14 a5352 u5353 h5354 h5355 h5356 h5357 a5612 h5613 w5614 w5615 r5616 r5617 r5618 h5619 h5639 h5759 h5804 w5805 w5806 w5808 w5810 w5809 w5811 w5813 w5814 w5816 w5815 w5818 w5819 w5820 w5822 w5821 w5823 w5827 w5826 a5828 ⊢) <;> first | omega | ((try simp (disch := omega) only [zb] at u5318 xq2 h5319 xq12 h5332 xq14 a5352 u5353 h5354 h5355 h5356 h5357 a5612 h5613 w5614 w5615 r5616 r5617 r5618 h5619 h5639 h5759 h5804 w5805 w5806 w5808 w5810 w5809 w5811 w5813 w5814 w5816 w5815 w5818 w5819 w5820 w5822 w5821 w5823 w5827 w5826 a5828 ⊢) <;> omega))⟩
                      · refine sw_sh (ci_sh cq30 t_p0 rfl) ?_
                        refine sw_on (sX9_put cq30 t_p0 (by (try simp only [zp, zo, zq] at u5318 xq2 h5319 xq12 h5332 xq14 a5352 u5353 h5354 h5355 h5356 h5357 a5612 h5613 w5614 w5615 r5616 r5617 r5618 h5619 h5639 h5759 h5804 ⊢) <;> (try simp only [zz, Int32.reduceToInt, ne_eq] at u5318 xq2 h5319 xq12 h5332 xq14 a5352 u5353 h5354 h5355 h5356 h5357 a5612 h5613 w5614 w5615 r5616 r5617 r5618 h5619 h5639 h5759 h5804 ⊢) <;> (try simp (disch := omega) only [zb] at u5318 xq2 h5319 xq12 h5332 xq14 a5352 u5353 h5354 h5355 h5356 h5357 a5612 h5613 w5614 w5615 r5616 r5617 r5618 h5619 h5639 h5759 h5804 ⊢) <;> first | omega | ((try simp (disch := omega) only [zb] at u5318 xq2 h5319 xq12 h5332 xq14 a5352 u5353 h5354 h5355 h5356 h5357 a5612 h5613 w5614 w5615 r5616 r5617 r5618 h5619 h5639 h5759 h5804 ⊢) <;> omega)) ) ?_
                        intro q28 hqq28
                        obtain ⟨cq28, gq28, xq28⟩ := hqq28
                        have fq28 := fr_trans fq30 gq28 rfl
                        have w5829 := (gq28.2.2 _ _ t_p0 0 rfl).1
                        have w5830 := (gq30.2.2 _ _ t_p0 0 rfl).1
                        have w5831 : mm_I s11 p0 0 = mm_I q2.2 p0 0 := by rw [← es11]; exact rd_k t_p0 tq5 (by decide)
                        have w5833 := rdA_fr (k := 9) (j := 1) gq28 cq30 t_p0 (κ' := 59) rfl rfl rfl
                        have w5834 := rdA_fr (k := 9) (j := 1) gq30 cs11 t_p0 (κ' := 59) rfl rfl rfl
                        have w5836 : rdA s11 p0 9 1 = mm_I s11 q17 ((1 : Int32)).toNatClampNeg := rdA_eq eq17
                        have w5835 : rdA s11 p0 9 1 = rdA q2.2 p0 9 1 := by rw [← es11]; exact rdA_k cq2 t_p0 (κ' := 59) rfl tq5 (by decide)
                        have w5837 := rdA_fr (k := 9) (j := 1) gq2 c0 t_p0 (κ' := 59) rfl rfl rfl
                        have w5839 := rdA_fr (k := 10) (j := 1) gq28 cq30 t_p0 (κ' := 60) rfl rfl rfl
                        have w5840 := rdA_fr (k := 10) (j := 1) gq30 cs11 t_p0 (κ' := 60) rfl rfl rfl
                        have w5841 : rdA s11 p0 10 1 = rdA q2.2 p0 10 1 := by rw [← es11]; exact rdA_j (by decide)
                        have w5843 : rdA q2.2 p0 10 1 = mm_I q2.2 q5 ((1 : Int32)).toNatClampNeg := rdA_eq eq5
                        have w5842 := rdA_fr (k := 10) (j := 1) gq2 c0 t_p0 (κ' := 60) rfl rfl rfl
                        have w5845 := rdA_fr (k := 10) (j := 0) gq28 cq30 t_p0 (κ' := 60) rfl rfl rfl
                        have w5846 := rdA_fr (k := 10) (j := 0) gq30 cs11 t_p0 (κ' := 60) rfl rfl rfl
                        have w5847 : rdA s11 p0 10 0 = -1 := by rw [← es11]; exact rdA_self eq5
                        have w5848 := rdA_fr (k := 9) (j := 0) gq28 cq30 t_p0 (κ' := 59) rfl rfl rfl
                        have w5849 := rdA_fr (k := 9) (j := 0) gq30 cs11 t_p0 (κ' := 59) rfl rfl rfl
                        have w5851 : rdA s11 p0 9 0 = mm_I s11 q17 ((0 : Int32)).toNatClampNeg := rdA_eq eq17
                        have w5850 : rdA s11 p0 9 0 = rdA q2.2 p0 9 0 := by rw [← es11]; exact rdA_k cq2 t_p0 (κ' := 59) rfl tq5 (by decide)
                        have w5852 := rdA_fr (k := 9) (j := 0) gq2 c0 t_p0 (κ' := 59) rfl rfl rfl
                        have w5856 : rdA q2.2 p0 10 0 = mm_I q2.2 q5 ((0 : Int32)).toNatClampNeg := rdA_eq eq5
                        have w5855 := rdA_fr (k := 10) (j := 0) gq2 c0 t_p0 (κ' := 60) rfl rfl rfl
                        have a5857 := zi_and p2 8 (by decide)
                        exact sw_some ⟨cq28, fq28, (by (try simp only [zp, zo, zq] at u5318 xq2 h5319 xq12 h5332 xq14 a5352 u5353 h5354 h5355 h5356 h5357 a5612 h5613 w5614 w5615 r5616 r5617 r5618 h5619 h5639 h5759 h5804 w5829 w5830 w5831 w5833 w5834 w5836 w5835 w5837 w5839 w5840 w5841 w5843 w5842 w5845 w5846 w5847 w5848 w5849 w5851 w5850 w5852 w5856 w5855 a5857 ⊢) <;> (try simp only [zz, Int32.reduceToInt, ne_eq] at u5318 xq2 h5319 xq12 h5332 xq14 a5352 u5353 h5354 h5355 h5356 h5357 a5612 h5613 w5614 w5615 r5616 r5617 r5618 h5619 h5639 h5759 h5804 w5829 w5830 w5831 w5833 w5834 w5836 w5835 w5837 w5839 w5840 w5841 w5843 w5842 w5845 w5846 w5847 w5848 w5849 w5851 w5850 w5852 w5856 w5855 a5857 ⊢) <;> (try simp (disch := omega) only [zb] at u5318 xq2 h5319 xq12 h5332 xq14 a5352 u5353 h5354 h5355 h5356 h5357 a5612 h5613 w5614 w5615 r5616 r5617 r5618 h5619 h5639 h5759 h5804 w5829 w5830 w5831 w5833 w5834 w5836 w5835 w5837 w5839 w5840 w5841 w5843 w5842 w5845 w5846 w5847 w5848 w5849 w5851 w5850 w5852 w5856 w5855 a5857 ⊢) <;> first | omega | ((try simp (disch := omega) only [zb] at u5318 xq2 h5319 xq12 h5332 xq14 a5352 u5353 h5354 h5355 h5356 h5357 a5612 h5613 w5614 w5615 r5616 r5617 r5618 h5619 h5639 h5759 h5804 w5829 w5830 w5831 w5833 w5834 w5836 w5835 w5837 w5839 w5840 w5841 w5843 w5842 w5845 w5846 w5847 w5848 w5849 w5851 w5850 w5852 w5856 w5855 a5857 ⊢) <;> omega))⟩
              · refine sw_ite (fun h5858 => ?_) (fun h5858 => ?_)
                · unfold fX9_pair_222
                  unfold fX9_pair_228
                  have w5859 : mm_I s11 q17 ((0 : Int32).toNatClampNeg) = mm_I q2.2 q17 ((0 : Int32).toNatClampNeg) := by rw [← es11]; exact rd_k tq17 tq5 (by decide)
                  have w5860 := (gq2.2.2 _ _ tq17 ((0 : Int32).toNatClampNeg) rfl).1
                  have r5861 := ci_rg c0 tq17 ((0 : Int32).toNatClampNeg) (lo := (-1)) (hi := 3) rfl
                  have r5862 := ci_rg cq2 tq17 ((0 : Int32).toNatClampNeg) (lo := (-1)) (hi := 3) rfl
                  have r5863 := ci_rg cs11 tq17 ((0 : Int32).toNatClampNeg) (lo := (-1)) (hi := 3) rfl
                  refine sw_ite (fun h5864 => ?_) (fun h5864 => ?_)
                  · have w5865 : mm_I s11 p0 0 = mm_I q2.2 p0 0 := by rw [← es11]; exact rd_k t_p0 tq5 (by decide)
                    have w5868 : rdA s11 p0 9 1 = mm_I s11 q17 ((1 : Int32)).toNatClampNeg := rdA_eq eq17
                    have w5867 : rdA s11 p0 9 1 = rdA q2.2 p0 9 1 := by rw [← es11]; exact rdA_k cq2 t_p0 (κ' := 59) rfl tq5 (by decide)
                    have w5869 := rdA_fr (k := 9) (j := 1) gq2 c0 t_p0 (κ' := 59) rfl rfl rfl
                    have w5871 : rdA s11 p0 10 1 = rdA q2.2 p0 10 1 := by rw [← es11]; exact rdA_j (by decide)
                    have w5873 : rdA q2.2 p0 10 1 = mm_I q2.2 q5 ((1 : Int32)).toNatClampNeg := rdA_eq eq5
                    have w5872 := rdA_fr (k := 10) (j := 1) gq2 c0 t_p0 (κ' := 60) rfl rfl rfl
                    have w5875 : rdA s11 p0 10 0 = -1 := by rw [← es11]; exact rdA_self eq5
                    have w5877 : rdA s11 p0 9 0 = mm_I s11 q17 ((0 : Int32)).toNatClampNeg := rdA_eq eq17
                    have w5876 : rdA s11 p0 9 0 = rdA q2.2 p0 9 0 := by rw [← es11]; exact rdA_k cq2 t_p0 (κ' := 59) rfl tq5 (by decide)
                    have w5878 := rdA_fr (k := 9) (j := 0) gq2 c0 t_p0 (κ' := 59) rfl rfl rfl
                    have w5882 : rdA q2.2 p0 10 0 = mm_I q2.2 q5 ((0 : Int32)).toNatClampNeg := rdA_eq eq5
                    have w5881 := rdA_fr (k := 10) (j := 0) gq2 c0 t_p0 (κ' := 60) rfl rfl rfl
                    have a5883 := zi_and p2 8 (by decide)
                    exact sw_some ⟨cs11, fs11, (by (try simp only [zp, zo, zq] at u5318 xq2 h5319 xq12 h5332 xq14 a5352 u5353 h5354 h5355 h5356 h5357 a5612 h5613 h5858 w5859 w5860 r5861 r5862 r5863 h5864 w5865 w5868 w5867 w5869 w5871 w5873 w5872 w5875 w5877 w5876 w5878 w5882 w5881 a5883 ⊢) <;> (try simp only [zz, Int32.reduceToInt, ne_eq] at u5318 xq2 h5319 xq12 h5332 xq14 a5352 u5353 h5354 h5355 h5356 h5357 a5612 h5613 h5858 w5859 w5860 r5861 r5862 r5863 h5864 w5865 w5868 w5867 w5869 w5871 w5873 w5872 w5875 w5877 w5876 w5878 w5882 w5881 a5883 ⊢) <;> (try simp (disch := omega) only [zb] at u5318 xq2 h5319 xq12 h5332 xq14 a5352 u5353 h5354 h5355 h5356 h5357 a5612 h5613 h5858 w5859 w5860 r5861 r5862 r5863 h5864 w5865 w5868 w5867 w5869 w5871 w5873 w5872 w5875 w5877 w5876 w5878 w5882 w5881 a5883 ⊢) <;> first | omega | ((try simp (disch := omega) only [zb] at u5318 xq2 h5319 xq12 h5332 xq14 a5352 u5353 h5354 h5355 h5356 h5357 a5612 h5613 h5858 w5859 w5860 r5861 r5862 r5863 h5864 w5865 w5868 w5867 w5869 w5871 w5873 w5872 w5875 w5877 w5876 w5878 w5882 w5881 a5883 ⊢) <;> omega))⟩
                  · refine sw_ite (fun h5884 => ?_) (fun h5884 => ?_)
                    · refine sw_ite (fun h5885 => ?_) (fun h5885 => ?_)
                      · have w5886 : mm_I s11 p0 0 = mm_I q2.2 p0 0 := by rw [← es11]; exact rd_k t_p0 tq5 (by decide)
                        have w5889 : rdA s11 p0 9 1 = mm_I s11 q17 ((1 : Int32)).toNatClampNeg := rdA_eq eq17
                        have w5888 : rdA s11 p0 9 1 = rdA q2.2 p0 9 1 := by rw [← es11]; exact rdA_k cq2 t_p0 (κ' := 59) rfl tq5 (by decide)
                        have w5890 := rdA_fr (k := 9) (j := 1) gq2 c0 t_p0 (κ' := 59) rfl rfl rfl
                        have w5892 : rdA s11 p0 10 1 = rdA q2.2 p0 10 1 := by rw [← es11]; exact rdA_j (by decide)
                        have w5894 : rdA q2.2 p0 10 1 = mm_I q2.2 q5 ((1 : Int32)).toNatClampNeg := rdA_eq eq5
                        have w5893 := rdA_fr (k := 10) (j := 1) gq2 c0 t_p0 (κ' := 60) rfl rfl rfl
                        have w5896 : rdA s11 p0 10 0 = -1 := by rw [← es11]; exact rdA_self eq5
                        have w5898 : rdA s11 p0 9 0 = mm_I s11 q17 ((0 : Int32)).toNatClampNeg := rdA_eq eq17
                        have w5897 : rdA s11 p0 9 0 = rdA q2.2 p0 9 0 := by rw [← es11]; exact rdA_k cq2 t_p0 (κ' := 59) rfl tq5 (by decide)
                        have w5899 := rdA_fr (k := 9) (j := 0) gq2 c0 t_p0 (κ' := 59) rfl rfl rfl
                        have w5903 : rdA q2.2 p0 10 0 = mm_I q2.2 q5 ((0 : Int32)).toNatClampNeg := rdA_eq eq5
                        have w5902 := rdA_fr (k := 10) (j := 0) gq2 c0 t_p0 (κ' := 60) rfl rfl rfl
                        have a5904 := zi_and p2 8 (by decide)
                        exact sw_some ⟨cs11, fs11, (by (try simp only [zp, zo, zq] at u5318 xq2 h5319 xq12 h5332 xq14 a5352 u5353 h5354 h5355 h5356 h5357 a5612 h5613 h5858 w5859 w5860 r5861 r5862 r5863 h5864 h5884 h5885 w5886 w5889 w5888 w5890 w5892 w5894 w5893 w5896 w5898 w5897 w5899 w5903 w5902 a5904 ⊢) <;> (try simp only [zz, Int32.reduceToInt, ne_eq] at u5318 xq2 h5319 xq12 h5332 xq14 a5352 u5353 h5354 h5355 h5356 h5357 a5612 h5613 h5858 w5859 w5860 r5861 r5862 r5863 h5864 h5884 h5885 w5886 w5889 w5888 w5890 w5892 w5894 w5893 w5896 w5898 w5897 w5899 w5903 w5902 a5904 ⊢) <;> (try simp (disch := omega) only [zb] at u5318 xq2 h5319 xq12 h5332 xq14 a5352 u5353 h5354 h5355 h5356 h5357 a5612 h5613 h5858 w5859 w5860 r5861 r5862 r5863 h5864 h5884 h5885 w5886 w5889 w5888 w5890 w5892 w5894 w5893 w5896 w5898 w5897 w5899 w5903 w5902 a5904 ⊢) <;> first | omega | ((try simp (disch := omega) only [zb] at u5318 xq2 h5319 xq12 h5332 xq14 a5352 u5353 h5354 h5355 h5356 h5357 a5612 h5613 h5858 w5859 w5860 r5861 r5862 r5863 h5864 h5884 h5885 w5886 w5889 w5888 w5890 w5892 w5894 w5893 w5896 w5898 w5897 w5899 w5903 w5902 a5904 ⊢) <;> omega))⟩
                      · unfold fX9_pair_250
                        refine sw_ite (fun h5905 => ?_) (fun h5905 => ?_)
                        · unfold fX9_pair_264
                          refine sw_ite (fun h5906 => ?_) (fun h5906 => ?_)
                          · have w5907 : mm_I s11 p0 0 = mm_I q2.2 p0 0 := by rw [← es11]; exact rd_k t_p0 tq5 (by decide)
                            have w5910 : rdA s11 p0 9 1 = mm_I s11 q17 ((1 : Int32)).toNatClampNeg := rdA_eq eq17
                            have w5909 : rdA s11 p0 9 1 = rdA q2.2 p0 9 1 := by rw [← es11]; exact rdA_k cq2 t_p0 (κ' := 59) rfl tq5 (by decide)
                            have w5911 := rdA_fr (k := 9) (j := 1) gq2 c0 t_p0 (κ' := 59) rfl rfl rfl
                            have w5913 : rdA s11 p0 10 1 = rdA q2.2 p0 10 1 := by rw [← es11]; exact rdA_j (by decide)
                            have w5915 : rdA q2.2 p0 10 1 = mm_I q2.2 q5 ((1 : Int32)).toNatClampNeg := rdA_eq eq5
                            have w5914 := rdA_fr (k := 10) (j := 1) gq2 c0 t_p0 (κ' := 60) rfl rfl rfl
                            have w5917 : rdA s11 p0 10 0 = -1 := by rw [← es11]; exact rdA_self eq5
                            have w5919 : rdA s11 p0 9 0 = mm_I s11 q17 ((0 : Int32)).toNatClampNeg := rdA_eq eq17
                            have w5918 : rdA s11 p0 9 0 = rdA q2.2 p0 9 0 := by rw [← es11]; exact rdA_k cq2 t_p0 (κ' := 59) rfl tq5 (by decide)
                            have w5920 := rdA_fr (k := 9) (j := 0) gq2 c0 t_p0 (κ' := 59) rfl rfl rfl
                            have w5924 : rdA q2.2 p0 10 0 = mm_I q2.2 q5 ((0 : Int32)).toNatClampNeg := rdA_eq eq5
                            have w5923 := rdA_fr (k := 10) (j := 0) gq2 c0 t_p0 (κ' := 60) rfl rfl rfl
                            have a5925 := zi_and p2 8 (by decide)
                            exact sw_some ⟨cs11, fs11, (by (try simp only [zp, zo, zq] at u5318 xq2 h5319 xq12 h5332 xq14 a5352 u5353 h5354 h5355 h5356 h5357 a5612 h5613 h5858 w5859 w5860 r5861 r5862 r5863 h5864 h5884 h5885 h5905 h5906 w5907 w5910 w5909 w5911 w5913 w5915 w5914 w5917 w5919 w5918 w5920 w5924 w5923 a5925 ⊢) <;> (try simp only [zz, Int32.reduceToInt, ne_eq] at u5318 xq2 h5319 xq12 h5332 xq14 a5352 u5353 h5354 h5355 h5356 h5357 a5612 h5613 h5858 w5859 w5860 r5861 r5862 r5863 h5864 h5884 h5885 h5905 h5906 w5907 w5910 w5909 w5911 w5913 w5915 w5914 w5917 w5919 w5918 w5920 w5924 w5923 a5925 ⊢) <;> (try simp (disch := omega) only [zb] at u5318 xq2 h5319 xq12 h5332 xq14 a5352 u5353 h5354 h5355 h5356 h5357 a5612 h5613 h5858 w5859 w5860 r5861 r5862 r5863 h5864 h5884 h5885 h5905 h5906 w5907 w5910 w5909 w5911 w5913 w5915 w5914 w5917 w5919 w5918 w5920 w5924 w5923 a5925 ⊢) <;> first | omega | ((try simp (disch := omega) only [zb] at u5318 xq2 h5319 xq12 h5332 xq14 a5352 u5353 h5354 h5355 h5356 h5357 a5612 h5613 h5858 w5859 w5860 r5861 r5862 r5863 h5864 h5884 h5885 h5905 h5906 w5907 w5910 w5909 w5911 w5913 w5915 w5914 w5917 w5919 w5918 w5920 w5924 w5923 a5925 ⊢) <;> omega))⟩
                          · refine sw_sh (ci_sh cs11 t_p0 rfl) ?_
                            refine sw_on (sX9_put cs11 t_p0 (by (try simp only [zp, zo, zq] at u5318 xq2 h5319 xq12 h5332 xq14 a5352 u5353 h5354 h5355 h5356 h5357 a5612 h5613 h5858 w5859 w5860 r5861 r5862 r5863 h5864 h5884 h5885 h5905 h5906 ⊢) <;> (try simp only [zz, Int32.reduceToInt, ne_eq] at u5318 xq2 h5319 xq12 h5332 xq14 a5352 u5353 h5354 h5355 h5356 h5357 a5612 h5613 h5858 w5859 w5860 r5861 r5862 r5863 h5864 h5884 h5885 h5905 h5906 ⊢) <;> (try simp (disch := omega) only [zb] at u5318 xq2 h5319 xq12 h5332 xq14 a5352 u5353 h5354 h5355 h5356 h5357 a5612 h5613 h5858 w5859 w5860 r5861 r5862 r5863 h5864 h5884 h5885 h5905 h5906 ⊢) <;> first | omega | ((try simp (disch := omega) only [zb] at u5318 xq2 h5319 xq12 h5332 xq14 a5352 u5353 h5354 h5355 h5356 h5357 a5612 h5613 h5858 w5859 w5860 r5861 r5862 r5863 h5864 h5884 h5885 h5905 h5906 ⊢) <;> omega)) ) ?_
                            intro q28 hqq28
                            obtain ⟨cq28, gq28, xq28⟩ := hqq28
                            have fq28 := fr_trans fs11 gq28 rfl
                            have w5926 := (gq28.2.2 _ _ t_p0 0 rfl).1
                            have w5927 : mm_I s11 p0 0 = mm_I q2.2 p0 0 := by rw [← es11]; exact rd_k t_p0 tq5 (by decide)
                            have w5929 := rdA_fr (k := 9) (j := 1) gq28 cs11 t_p0 (κ' := 59) rfl rfl rfl
                            have w5931 : rdA s11 p0 9 1 = mm_I s11 q17 ((1 : Int32)).toNatClampNeg := rdA_eq eq17
                            have w5930 : rdA s11 p0 9 1 = rdA q2.2 p0 9 1 := by rw [← es11]; exact rdA_k cq2 t_p0 (κ' := 59) rfl tq5 (by decide)
                            have w5932 := rdA_fr (k := 9) (j := 1) gq2 c0 t_p0 (κ' := 59) rfl rfl rfl
                            have w5934 := rdA_fr (k := 10) (j := 1) gq28 cs11 t_p0 (κ' := 60) rfl rfl rfl
                            have w5935 : rdA s11 p0 10 1 = rdA q2.2 p0 10 1 := by rw [← es11]; exact rdA_j (by decide)
                            have w5937 : rdA q2.2 p0 10 1 = mm_I q2.2 q5 ((1 : Int32)).toNatClampNeg := rdA_eq eq5
                            have w5936 := rdA_fr (k := 10) (j := 1) gq2 c0 t_p0 (κ' := 60) rfl rfl rfl
                            have w5939 := rdA_fr (k := 10) (j := 0) gq28 cs11 t_p0 (κ' := 60) rfl rfl rfl
                            have w5940 : rdA s11 p0 10 0 = -1 := by rw [← es11]; exact rdA_self eq5
                            have w5941 := rdA_fr (k := 9) (j := 0) gq28 cs11 t_p0 (κ' := 59) rfl rfl rfl
                            have w5943 : rdA s11 p0 9 0 = mm_I s11 q17 ((0 : Int32)).toNatClampNeg := rdA_eq eq17
                            have w5942 : rdA s11 p0 9 0 = rdA q2.2 p0 9 0 := by rw [← es11]; exact rdA_k cq2 t_p0 (κ' := 59) rfl tq5 (by decide)
                            have w5944 := rdA_fr (k := 9) (j := 0) gq2 c0 t_p0 (κ' := 59) rfl rfl rfl
                            have w5948 : rdA q2.2 p0 10 0 = mm_I q2.2 q5 ((0 : Int32)).toNatClampNeg := rdA_eq eq5
                            have w5947 := rdA_fr (k := 10) (j := 0) gq2 c0 t_p0 (κ' := 60) rfl rfl rfl
                            have a5949 := zi_and p2 8 (by decide)
                            exact sw_some ⟨cq28, fq28, (by (try simp only [zp, zo, zq] at u5318 xq2 h5319 xq12 h5332 xq14 a5352 u5353 h5354 h5355 h5356 h5357 a5612 h5613 h5858 w5859 w5860 r5861 r5862 r5863 h5864 h5884 h5885 h5905 h5906 w5926 w5927 w5929 w5931 w5930 w5932 w5934 w5935 w5937 w5936 w5939 w5940 w5941 w5943 w5942 w5944 w5948 w5947 a5949 ⊢) <;> (try simp only [zz, Int32.reduceToInt, ne_eq] at u5318 xq2 h5319 xq12 h5332 xq14 a5352 u5353 h5354 h5355 h5356 h5357 a5612 h5613 h5858 w5859 w5860 r5861 r5862 r5863 h5864 h5884 h5885 h5905 h5906 w5926 w5927 w5929 w5931 w5930 w5932 w5934 w5935 w5937 w5936 w5939 w5940 w5941 w5943 w5942 w5944 w5948 w5947 a5949 ⊢) <;> (try simp (disch := omega) only [zb] at u5318 xq2 h5319 xq12 h5332 xq14 a5352 u5353 h5354 h5355 h5356 h5357 a5612 h5613 h5858 w5859 w5860 r5861 r5862 r5863 h5864 h5884 h5885 h5905 h5906 w5926 w5927 w5929 w5931 w5930 w5932 w5934 w5935 w5937 w5936 w5939 w5940 w5941 w5943 w5942 w5944 w5948 w5947 a5949 ⊢) <;> first | omega | ((try simp (disch := omega) only [zb] at u5318 xq2 h5319 xq12 h5332 xq14 a5352 u5353 h5354 h5355 h5356 h5357 a5612 h5613 h5858 w5859 w5860 r5861 r5862 r5863 h5864 h5884 h5885 h5905 h5906 w5926 w5927 w5929 w5931 w5930 w5932 w5934 w5935 w5937 w5936 w5939 w5940 w5941 w5943 w5942 w5944 w5948 w5947 a5949 ⊢) <;> omega))⟩
                        · refine sw_sh (ci_sh cs11 t_p0 rfl) ?_
                          refine sw_on (sX9_put cs11 t_p0 (by (try simp only [zp, zo, zq] at u5318 xq2 h5319 xq12 h5332 xq14 a5352 u5353 h5354 h5355 h5356 h5357 a5612 h5613 h5858 w5859 w5860 r5861 r5862 r5863 h5864 h5884 h5885 h5905 ⊢) <;> (try simp only [zz, Int32.reduceToInt, ne_eq] at u5318 xq2 h5319 xq12 h5332 xq14 a5352 u5353 h5354 h5355 h5356 h5357 a5612 h5613 h5858 w5859 w5860 r5861 r5862 r5863 h5864 h5884 h5885 h5905 ⊢) <;> (try simp (disch := omega) only [zb] at u5318 xq2 h5319 xq12 h5332 xq14 a5352 u5353 h5354 h5355 h5356 h5357 a5612 h5613 h5858 w5859 w5860 r5861 r5862 r5863 h5864 h5884 h5885 h5905 ⊢) <;> first | omega | ((try simp (disch := omega) only [zb] at u5318 xq2 h5319 xq12 h5332 xq14 a5352 u5353 h5354 h5355 h5356 h5357 a5612 h5613 h5858 w5859 w5860 r5861 r5862 r5863 h5864 h5884 h5885 h5905 ⊢) <;> omega)) ) ?_
                          intro q30 hqq30
                          obtain ⟨cq30, gq30, xq30⟩ := hqq30
                          have fq30 := fr_trans fs11 gq30 rfl
                          unfold fX9_pair_264
                          refine sw_ite (fun h5950 => ?_) (fun h5950 => ?_)
                          · have w5951 := (gq30.2.2 _ _ t_p0 0 rfl).1
                            have w5952 : mm_I s11 p0 0 = mm_I q2.2 p0 0 := by rw [← es11]; exact rd_k t_p0 tq5 (by decide)
                            have w5954 := rdA_fr (k := 9) (j := 1) gq30 cs11 t_p0 (κ' := 59) rfl rfl rfl
                            have w5956 : rdA s11 p0 9 1 = mm_I s11 q17 ((1 : Int32)).toNatClampNeg := rdA_eq eq17
                            have w5955 : rdA s11 p0 9 1 = rdA q2.2 p0 9 1 := by rw [← es11]; exact rdA_k cq2 t_p0 (κ' := 59) rfl tq5 (by decide)
                            have w5957 := rdA_fr (k := 9) (j := 1) gq2 c0 t_p0 (κ' := 59) rfl rfl rfl
                            have w5959 := rdA_fr (k := 10) (j := 1) gq30 cs11 t_p0 (κ' := 60) rfl rfl rfl
                            have w5960 : rdA s11 p0 10 1 = rdA q2.2 p0 10 1 := by rw [← es11]; exact rdA_j (by decide)
                            have w5962 : rdA q2.2 p0 10 1 = mm_I q2.2 q5 ((1 : Int32)).toNatClampNeg := rdA_eq eq5
                            have w5961 := rdA_fr (k := 10) (j := 1) gq2 c0 t_p0 (κ' := 60) rfl rfl rfl
                            have w5964 := rdA_fr (k := 10) (j := 0) gq30 cs11 t_p0 (κ' := 60) rfl rfl rfl
                            have w5965 : rdA s11 p0 10 0 = -1 := by rw [← es11]; exact rdA_self eq5
                            have w5966 := rdA_fr (k := 9) (j := 0) gq30 cs11 t_p0 (κ' := 59) rfl rfl rfl
                            have w5968 : rdA s11 p0 9 0 = mm_I s11 q17 ((0 : Int32)).toNatClampNeg := rdA_eq eq17
                            have w5967 : rdA s11 p0 9 0 = rdA q2.2 p0 9 0 := by rw [← es11]; exact rdA_k cq2 t_p0 (κ' := 59) rfl tq5 (by decide)
                            have w5969 := rdA_fr (k := 9) (j := 0) gq2 c0 t_p0 (κ' := 59) rfl rfl rfl
                            have w5973 : rdA q2.2 p0 10 0 = mm_I q2.2 q5 ((0 : Int32)).toNatClampNeg := rdA_eq eq5
                            have w5972 := rdA_fr (k := 10) (j := 0) gq2 c0 t_p0 (κ' := 60) rfl rfl rfl
                            have a5974 := zi_and p2 8 (by decide)
                            exact sw_some ⟨cq30, fq30, (by (try simp only [zp, zo, zq] at u5318 xq2 h5319 xq12 h5332 xq14 a5352 u5353 h5354 h5355 h5356 h5357 a5612 h5613 h5858 w5859 w5860 r5861 r5862 r5863 h5864 h5884 h5885 h5905 h5950 w5951 w5952 w5954 w5956 w5955 w5957 w5959 w5960 w5962 w5961 w5964 w5965 w5966 w5968 w5967 w5969 w5973 w5972 a5974 ⊢) <;> (try simp only [zz, Int32.reduceToInt, ne_eq] at u5318 xq2 h5319 xq12 h5332 xq14 a5352 u5353 h5354 h5355 h5356 h5357 a5612 h5613 h5858 w5859 w5860 r5861 r5862 r5863 h5864 h5884 h5885 h5905 h5950 w5951 w5952 w5954 w5956 w5955 w5957 w5959 w5960 w5962 w5961 w5964 w5965 w5966 w5968 w5967 w5969 w5973 w5972 a5974 ⊢) <;> (try simp (disch := omega) only [zb] at u5318 xq2 h5319 xq12 h5332 xq14 a5352 u5353 h5354 h5355 h5356 h5357 a5612 h5613 h5858 w5859 w5860 r5861 r5862 r5863 h5864 h5884 h5885 h5905 h5950 w5951 w5952 w5954 w5956 w5955 w5957 w5959 w5960 w5962 w5961 w5964 w5965 w5966 w5968 w5967 w5969 w5973 w5972 a5974 ⊢) <;> first | omega | ((try simp (disch := omega) only [zb] at u5318 xq2 h5319 xq12 h5332 xq14 a5352 u5353 h5354 h5355 h5356 h5357 a5612 h5613 h5858 w5859 w5860 r5861 r5862 r5863 h5864 h5884 h5885 h5905 h5950 w5951 w5952 w5954 w5956 w5955 w5957 w5959 w5960 w5962 w5961 w5964 w5965 w5966 w5968 w5967 w5969 w5973 w5972 a5974 ⊢) <;> omega))⟩
                          · refine sw_sh (ci_sh cq30 t_p0 rfl) ?_
                            refine sw_on (sX9_put cq30 t_p0 (by (try simp only [zp, zo, zq] at u5318 xq2 h5319 xq12 h5332 xq14 a5352 u5353 h5354 h5355 h5356 h5357 a5612 h5613 h5858 w5859 w5860 r5861 r5862 r5863 h5864 h5884 h5885 h5905 h5950 ⊢) <;> (try simp only [zz, Int32.reduceToInt, ne_eq] at u5318 xq2 h5319 xq12 h5332 xq14 a5352 u5353 h5354 h5355 h5356 h5357 a5612 h5613 h5858 w5859 w5860 r5861 r5862 r5863 h5864 h5884 h5885 h5905 h5950 ⊢) <;> (try simp (disch := omega) only [zb] at u5318 xq2 h5319 xq12 h5332 xq14 a5352 u5353 h5354 h5355 h5356 h5357 a5612 h5613 h5858 w5859 w5860 r5861 r5862 r5863 h5864 h5884 h5885 h5905 h5950 ⊢) <;> first | omega | ((try simp (disch := omega) only [zb] at u5318 xq2 h5319 xq12 h5332 xq14 a5352 u5353 h5354 h5355 h5356 h5357 a5612 h5613 h5858 w5859 w5860 r5861 r5862 r5863 h5864 h5884 h5885 h5905 h5950 ⊢) <;> omega)) ) ?_
                            intro q28 hqq28
                            obtain ⟨cq28, gq28, xq28⟩ := hqq28
                            have fq28 := fr_trans fq30 gq28 rfl
                            have w5975 := (gq28.2.2 _ _ t_p0 0 rfl).1
                            have w5976 := (gq30.2.2 _ _ t_p0 0 rfl).1
                            have w5977 : mm_I s11 p0 0 = mm_I q2.2 p0 0 := by rw [← es11]; exact rd_k t_p0 tq5 (by decide)
                            have w5979 := rdA_fr (k := 9) (j := 1) gq28 cq30 t_p0 (κ' := 59) rfl rfl rfl
                            have w5980 := rdA_fr (k := 9) (j := 1) gq30 cs11 t_p0 (κ' := 59) rfl rfl rfl
                            have w5982 : rdA s11 p0 9 1 = mm_I s11 q17 ((1 : Int32)).toNatClampNeg := rdA_eq eq17
                            have w5981 : rdA s11 p0 9 1 = rdA q2.2 p0 9 1 := by rw [← es11]; exact rdA_k cq2 t_p0 (κ' := 59) rfl tq5 (by decide)
                            have w5983 := rdA_fr (k := 9) (j := 1) gq2 c0 t_p0 (κ' := 59) rfl rfl rfl
                            have w5985 := rdA_fr (k := 10) (j := 1) gq28 cq30 t_p0 (κ' := 60) rfl rfl rfl
                            have w5986 := rdA_fr (k := 10) (j := 1) gq30 cs11 t_p0 (κ' := 60) rfl rfl rfl
                            have w5987 : rdA s11 p0 10 1 = rdA q2.2 p0 10 1 := by rw [← es11]; exact rdA_j (by decide)
                            have w5989 : rdA q2.2 p0 10 1 = mm_I q2.2 q5 ((1 : Int32)).toNatClampNeg := rdA_eq eq5
                            have w5988 := rdA_fr (k := 10) (j := 1) gq2 c0 t_p0 (κ' := 60) rfl rfl rfl
                            have w5991 := rdA_fr (k := 10) (j := 0) gq28 cq30 t_p0 (κ' := 60) rfl rfl rfl
                            have w5992 := rdA_fr (k := 10) (j := 0) gq30 cs11 t_p0 (κ' := 60) rfl rfl rfl
                            have w5993 : rdA s11 p0 10 0 = -1 := by rw [← es11]; exact rdA_self eq5
                            have w5994 := rdA_fr (k := 9) (j := 0) gq28 cq30 t_p0 (κ' := 59) rfl rfl rfl
                            have w5995 := rdA_fr (k := 9) (j := 0) gq30 cs11 t_p0 (κ' := 59) rfl rfl rfl
                            have w5997 : rdA s11 p0 9 0 = mm_I s11 q17 ((0 : Int32)).toNatClampNeg := rdA_eq eq17
                            have w5996 : rdA s11 p0 9 0 = rdA q2.2 p0 9 0 := by rw [← es11]; exact rdA_k cq2 t_p0 (κ' := 59) rfl tq5 (by decide)
                            have w5998 := rdA_fr (k := 9) (j := 0) gq2 c0 t_p0 (κ' := 59) rfl rfl rfl
                            have w6002 : rdA q2.2 p0 10 0 = mm_I q2.2 q5 ((0 : Int32)).toNatClampNeg := rdA_eq eq5
                            have w6001 := rdA_fr (k := 10) (j := 0) gq2 c0 t_p0 (κ' := 60) rfl rfl rfl
                            have a6003 := zi_and p2 8 (by decide)
                            exact sw_some ⟨cq28, fq28, (by (try simp only [zp, zo, zq] at u5318 xq2 h5319 xq12 h5332 xq14 a5352 u5353 h5354 h5355 h5356 h5357 a5612 h5613 h5858 w5859 w5860 r5861 r5862 r5863 h5864 h5884 h5885 h5905 h5950 w5975 w5976 w5977 w5979 w5980 w5982 w5981 w5983 w5985 w5986 w5987 w5989 w5988 w5991 w5992 w5993 w5994 w5995 w5997 w5996 w5998 w6002 w6001 a6003 ⊢) <;> (try simp only [zz, Int32.reduceToInt, ne_eq] at u5318 xq2 h5319 xq12 h5332 xq14 a5352 u5353 h5354 h5355 h5356 h5357 a5612 h5613 h5858 w5859 w5860 r5861 r5862 r5863 h5864 h5884 h5885 h5905 h5950 w5975 w5976 w5977 w5979 w5980 w5982 w5981 w5983 w5985 w5986 w5987 w5989 w5988 w5991 w5992 w5993 w5994 w5995 w5997 w5996 w5998 w6002 w6001 a6003 ⊢) <;> (try simp (disch := omega) only [zb] at u5318 xq2 h5319 xq12 h5332 xq14 a5352 u5353 h5354 h5355 h5356 h5357 a5612 h5613 h5858 w5859 w5860 r5861 r5862 r5863 h5864 h5884 h5885 h5905 h5950 w5975 w5976 w5977 w5979 w5980 w5982 w5981 w5983 w5985 w5986 w5987 w5989 w5988 w5991 w5992 w5993 w5994 w5995 w5997 w5996 w5998 w6002 w6001 a6003 ⊢) <;> first | omega | ((try simp (disch := omega) only [zb] at u5318 xq2 h5319 xq12 h5332 xq14 a5352 u5353 h5354 h5355 h5356 h5357 a5612 h5613 h5858 w5859 w5860 r5861 r5862 r5863 h5864 h5884 h5885 h5905 h5950 w5975 w5976 w5977 w5979 w5980 w5982 w5981 w5983 w5985 w5986 w5987 w5989 w5988 w5991 w5992 w5993 w5994 w5995 w5997 w5996 w5998 w6002 w6001 a6003 ⊢) <;> omega))⟩
                    · unfold fX9_pair_250
                      refine sw_ite (fun h6004 => ?_) (fun h6004 => ?_)
                      · unfold fX9_pair_264
                        refine sw_ite (fun h6005 => ?_) (fun h6005 => ?_)
                        · have w6006 : mm_I s11 p0 0 = mm_I q2.2 p0 0 := by rw [← es11]; exact rd_k t_p0 tq5 (by decide)
                          have w6009 : rdA s11 p0 9 1 = mm_I s11 q17 ((1 : Int32)).toNatClampNeg := rdA_eq eq17
                          have w6008 : rdA s11 p0 9 1 = rdA q2.2 p0 9 1 := by rw [← es11]; exact rdA_k cq2 t_p0 (κ' := 59) rfl tq5 (by decide)
                          have w6010 := rdA_fr (k := 9) (j := 1) gq2 c0 t_p0 (κ' := 59) rfl rfl rfl
                          have w6012 : rdA s11 p0 10 1 = rdA q2.2 p0 10 1 := by rw [← es11]; exact rdA_j (by decide)
                          have w6014 : rdA q2.2 p0 10 1 = mm_I q2.2 q5 ((1 : Int32)).toNatClampNeg := rdA_eq eq5
                          have w6013 := rdA_fr (k := 10) (j := 1) gq2 c0 t_p0 (κ' := 60) rfl rfl rfl
                          have w6016 : rdA s11 p0 10 0 = -1 := by rw [← es11]; exact rdA_self eq5
                          have w6018 : rdA s11 p0 9 0 = mm_I s11 q17 ((0 : Int32)).toNatClampNeg := rdA_eq eq17
                          have w6017 : rdA s11 p0 9 0 = rdA q2.2 p0 9 0 := by rw [← es11]; exact rdA_k cq2 t_p0 (κ' := 59) rfl tq5 (by decide)
                          have w6019 := rdA_fr (k := 9) (j := 0) gq2 c0 t_p0 (κ' := 59) rfl rfl rfl
                          have w6023 : rdA q2.2 p0 10 0 = mm_I q2.2 q5 ((0 : Int32)).toNatClampNeg := rdA_eq eq5
                          have w6022 := rdA_fr (k := 10) (j := 0) gq2 c0 t_p0 (κ' := 60) rfl rfl rfl
                          have a6024 := zi_and p2 8 (by decide)
                          exact sw_some ⟨cs11, fs11, (by (try simp only [zp, zo, zq] at u5318 xq2 h5319 xq12 h5332 xq14 a5352 u5353 h5354 h5355 h5356 h5357 a5612 h5613 h5858 w5859 w5860 r5861 r5862 r5863 h5864 h5884 h6004 h6005 w6006 w6009 w6008 w6010 w6012 w6014 w6013 w6016 w6018 w6017 w6019 w6023 w6022 a6024 ⊢) <;> (try simp only [zz, Int32.reduceToInt, ne_eq] at u5318 xq2 h5319 xq12 h5332 xq14 a5352 u5353 h5354 h5355 h5356 h5357 a5612 h5613 h5858 w5859 w5860 r5861 r5862 r5863 h5864 h5884 h6004 h6005 w6006 w6009 w6008 w6010 w6012 w6014 w6013 w6016 w6018 w6017 w6019 w6023 w6022 a6024 ⊢) <;> (try simp (disch := omega) only [zb] at u5318 xq2 h5319 xq12 h5332 xq14 a5352 u5353 h5354 h5355 h5356 h5357 a5612 h5613 h5858 w5859 w5860 r5861 r5862 r5863 h5864 h5884 h6004 h6005 w6006 w6009 w6008 w6010 w6012 w6014 w6013 w6016 w6018 w6017 w6019 w6023 w6022 a6024 ⊢) <;> first | omega | ((try simp (disch := omega) only [zb] at u5318 xq2 h5319 xq12 h5332 xq14 a5352 u5353 h5354 h5355 h5356 h5357 a5612 h5613 h5858 w5859 w5860 r5861 r5862 r5863 h5864 h5884 h6004 h6005 w6006 w6009 w6008 w6010 w6012 w6014 w6013 w6016 w6018 w6017 w6019 w6023 w6022 a6024 ⊢) <;> omega))⟩
                        · refine sw_sh (ci_sh cs11 t_p0 rfl) ?_
                          refine sw_on (sX9_put cs11 t_p0 (by (try simp only [zp, zo, zq] at u5318 xq2 h5319 xq12 h5332 xq14 a5352 u5353 h5354 h5355 h5356 h5357 a5612 h5613 h5858 w5859 w5860 r5861 r5862 r5863 h5864 h5884 h6004 h6005 ⊢) <;> (try simp only [zz, Int32.reduceToInt, ne_eq] at u5318 xq2 h5319 xq12 h5332 xq14 a5352 u5353 h5354 h5355 h5356 h5357 a5612 h5613 h5858 w5859 w5860 r5861 r5862 r5863 h5864 h5884 h6004 h6005 ⊢) <;> (try simp (disch := omega) only [zb] at u5318 xq2 h5319 xq12 h5332 xq14 a5352 u5353 h5354 h5355 h5356 h5357 a5612 h5613 h5858 w5859 w5860 r5861 r5862 r5863 h5864 h5884 h6004 h6005 ⊢) <;> first | omega | ((try simp (disch := omega) only [zb] at u5318 xq2 h5319 xq12 h5332 xq14 a5352 u5353 h5354 h5355 h5356 h5357 a5612 h5613 h5858 w5859 w5860 r5861 r5862 r5863 h5864 h5884 h6004 h6005 ⊢) <;> omega)) ) ?_
                          intro q28 hqq28
                          obtain ⟨cq28, gq28, xq28⟩ := hqq28
                          have fq28 := fr_trans fs11 gq28 rfl
                          have w6025 := (gq28.2.2 _ _ t_p0 0 rfl).1
                          have w6026 : mm_I s11 p0 0 = mm_I q2.2 p0 0 := by rw [← es11]; exact rd_k t_p0 tq5 (by decide)
                          have w6028 := rdA_fr (k := 9) (j := 1) gq28 cs11 t_p0 (κ' := 59) rfl rfl rfl
                          have w6030 : rdA s11 p0 9 1 = mm_I s11 q17 ((1 : Int32)).toNatClampNeg := rdA_eq eq17
                          have w6029 : rdA s11 p0 9 1 = rdA q2.2 p0 9 1 := by rw [← es11]; exact rdA_k cq2 t_p0 (κ' := 59) rfl tq5 (by decide)
                          have w6031 := rdA_fr (k := 9) (j := 1) gq2 c0 t_p0 (κ' := 59) rfl rfl rfl
                          have w6033 := rdA_fr (k := 10) (j := 1) gq28 cs11 t_p0 (κ' := 60) rfl rfl rfl
                          have w6034 : rdA s11 p0 10 1 = rdA q2.2 p0 10 1 := by rw [← es11]; exact rdA_j (by decide)
                          have w6036 : rdA q2.2 p0 10 1 = mm_I q2.2 q5 ((1 : Int32)).toNatClampNeg := rdA_eq eq5
                          have w6035 := rdA_fr (k := 10) (j := 1) gq2 c0 t_p0 (κ' := 60) rfl rfl rfl
                          have w6038 := rdA_fr (k := 10) (j := 0) gq28 cs11 t_p0 (κ' := 60) rfl rfl rfl
                          have w6039 : rdA s11 p0 10 0 = -1 := by rw [← es11]; exact rdA_self eq5
                          have w6040 := rdA_fr (k := 9) (j := 0) gq28 cs11 t_p0 (κ' := 59) rfl rfl rfl
                          have w6042 : rdA s11 p0 9 0 = mm_I s11 q17 ((0 : Int32)).toNatClampNeg := rdA_eq eq17
                          have w6041 : rdA s11 p0 9 0 = rdA q2.2 p0 9 0 := by rw [← es11]; exact rdA_k cq2 t_p0 (κ' := 59) rfl tq5 (by decide)
                          have w6043 := rdA_fr (k := 9) (j := 0) gq2 c0 t_p0 (κ' := 59) rfl rfl rfl
                          have w6047 : rdA q2.2 p0 10 0 = mm_I q2.2 q5 ((0 : Int32)).toNatClampNeg := rdA_eq eq5
                          have w6046 := rdA_fr (k := 10) (j := 0) gq2 c0 t_p0 (κ' := 60) rfl rfl rfl
                          have a6048 := zi_and p2 8 (by decide)
                          exact sw_some ⟨cq28, fq28, (by (try simp only [zp, zo, zq] at u5318 xq2 h5319 xq12 h5332 xq14 a5352 u5353 h5354 h5355 h5356 h5357 a5612 h5613 h5858 w5859 w5860 r5861 r5862 r5863 h5864 h5884 h6004 h6005 w6025 w6026 w6028 w6030 w6029 w6031 w6033 w6034 w6036 w6035 w6038 w6039 w6040 w6042 w6041 w6043 w6047 w6046 a6048 ⊢) <;> (try simp only [zz, Int32.reduceToInt, ne_eq] at u5318 xq2 h5319 xq12 h5332 xq14 a5352 u5353 h5354 h5355 h5356 h5357 a5612 h5613 h5858 w5859 w5860 r5861 r5862 r5863 h5864 h5884 h6004 h6005 w6025 w6026 w6028 w6030 w6029 w6031 w6033 w6034 w6036 w6035 w6038 w6039 w6040 w6042 w6041 w6043 w6047 w6046 a6048 ⊢) <;> (try simp (disch := omega) only [zb] at u5318 xq2 h5319 xq12 h5332 xq14 a5352 u5353 h5354 h5355 h5356 h5357 a5612 h5613 h5858 w5859 w5860 r5861 r5862 r5863 h5864 h5884 h6004 h6005 w6025 w6026 w6028 w6030 w6029 w6031 w6033 w6034 w6036 w6035 w6038 w6039 w6040 w6042 w6041 w6043 w6047 w6046 a6048 ⊢) <;> first | omega | ((try simp (disch := omega) only [zb] at u5318 xq2 h5319 xq12 h5332 xq14 a5352 u5353 h5354 h5355 h5356 h5357 a5612 h5613 h5858 w5859 w5860 r5861 r5862 r5863 h5864 h5884 h6004 h6005 w6025 w6026 w6028 w6030 w6029 w6031 w6033 w6034 w6036 w6035 w6038 w6039 w6040 w6042 w6041 w6043 w6047 w6046 a6048 ⊢) <;> omega))⟩
                      · refine sw_sh (ci_sh cs11 t_p0 rfl) ?_
                        refine sw_on (sX9_put cs11 t_p0 (by (try simp only [zp, zo, zq] at u5318 xq2 h5319 xq12 h5332 xq14 a5352 u5353 h5354 h5355 h5356 h5357 a5612 h5613 h5858 w5859 w5860 r5861 r5862 r5863 h5864 h5884 h6004 ⊢) <;> (try simp only [zz, Int32.reduceToInt, ne_eq] at u5318 xq2 h5319 xq12 h5332 xq14 a5352 u5353 h5354 h5355 h5356 h5357 a5612 h5613 h5858 w5859 w5860 r5861 r5862 r5863 h5864 h5884 h6004 ⊢) <;> (try simp (disch := omega) only [zb] at u5318 xq2 h5319 xq12 h5332 xq14 a5352 u5353 h5354 h5355 h5356 h5357 a5612 h5613 h5858 w5859 w5860 r5861 r5862 r5863 h5864 h5884 h6004 ⊢) <;> first | omega | ((try simp (disch := omega) only [zb] at u5318 xq2 h5319 xq12 h5332 xq14 a5352 u5353 h5354 h5355 h5356 h5357 a5612 h5613 h5858 w5859 w5860 r5861 r5862 r5863 h5864 h5884 h6004 ⊢) <;> omega)) ) ?_
                        intro q30 hqq30
                        obtain ⟨cq30, gq30, xq30⟩ := hqq30
                        have fq30 := fr_trans fs11 gq30 rfl
                        unfold fX9_pair_264
                        refine sw_ite (fun h6049 => ?_) (fun h6049 => ?_)
                        · have w6050 := (gq30.2.2 _ _ t_p0 0 rfl).1
                          have w6051 : mm_I s11 p0 0 = mm_I q2.2 p0 0 := by rw [← es11]; exact rd_k t_p0 tq5 (by decide)
                          have w6053 := rdA_fr (k := 9) (j := 1) gq30 cs11 t_p0 (κ' := 59) rfl rfl rfl
                          have w6055 : rdA s11 p0 9 1 = mm_I s11 q17 ((1 : Int32)).toNatClampNeg := rdA_eq eq17
                          have w6054 : rdA s11 p0 9 1 = rdA q2.2 p0 9 1 := by rw [← es11]; exact rdA_k cq2 t_p0 (κ' := 59) rfl tq5 (by decide)
                          have w6056 := rdA_fr (k := 9) (j := 1) gq2 c0 t_p0 (κ' := 59) rfl rfl rfl
                          have w6058 := rdA_fr (k := 10) (j := 1) gq30 cs11 t_p0 (κ' := 60) rfl rfl rfl
                          have w6059 : rdA s11 p0 10 1 = rdA q2.2 p0 10 1 := by rw [← es11]; exact rdA_j (by decide)
                          have w6061 : rdA q2.2 p0 10 1 = mm_I q2.2 q5 ((1 : Int32)).toNatClampNeg := rdA_eq eq5
                          have w6060 := rdA_fr (k := 10) (j := 1) gq2 c0 t_p0 (κ' := 60) rfl rfl rfl
                          have w6063 := rdA_fr (k := 10) (j := 0) gq30 cs11 t_p0 (κ' := 60) rfl rfl rfl
                          have w6064 : rdA s11 p0 10 0 = -1 := by rw [← es11]; exact rdA_self eq5
                          have w6065 := rdA_fr (k := 9) (j := 0) gq30 cs11 t_p0 (κ' := 59) rfl rfl rfl
                          have w6067 : rdA s11 p0 9 0 = mm_I s11 q17 ((0 : Int32)).toNatClampNeg := rdA_eq eq17
                          have w6066 : rdA s11 p0 9 0 = rdA q2.2 p0 9 0 := by rw [← es11]; exact rdA_k cq2 t_p0 (κ' := 59) rfl tq5 (by decide)
                          have w6068 := rdA_fr (k := 9) (j := 0) gq2 c0 t_p0 (κ' := 59) rfl rfl rfl
                          have w6072 : rdA q2.2 p0 10 0 = mm_I q2.2 q5 ((0 : Int32)).toNatClampNeg := rdA_eq eq5
                          have w6071 := rdA_fr (k := 10) (j := 0) gq2 c0 t_p0 (κ' := 60) rfl rfl rfl
                          have a6073 := zi_and p2 8 (by decide)
                          exact sw_some ⟨cq30, fq30, (by (try simp only [zp, zo, zq] at u5318 xq2 h5319 xq12 h5332 xq14 a5352 u5353 h5354 h5355 h5356 h5357 a5612 h5613 h5858 w5859 w5860 r5861 r5862 r5863 h5864 h5884 h6004 h6049 w6050 w6051 w6053 w6055 w6054 w6056 w6058 w6059 w6061 w6060 w6063 w6064 w6065 w6067 w6066 w6068 w6072 w6071 a6073 ⊢) <;> (try simp only [zz, Int32.reduceToInt, ne_eq] at u5318 xq2 h5319 xq12 h5332 xq14 a5352 u5353 h5354 h5355 h5356 h5357 a5612 h5613 h5858 w5859 w5860 r5861 r5862 r5863 h5864 h5884 h6004 h6049 w6050 w6051 w6053 w6055 w6054 w6056 w6058 w6059 w6061 w6060 w6063 w6064 w6065 w6067 w6066 w6068 w6072 w6071 a6073 ⊢) <;> (try simp (disch := omega) only [zb] at u5318 xq2 h5319 xq12 h5332 xq14 a5352 u5353 h5354 h5355 h5356 h5357 a5612 h5613 h5858 w5859 w5860 r5861 r5862 r5863 h5864 h5884 h6004 h6049 w6050 w6051 w6053 w6055 w6054 w6056 w6058 w6059 w6061 w6060 w6063 w6064 w6065 w6067 w6066 w6068 w6072 w6071 a6073 ⊢) <;> first | omega | ((try simp (disch := omega) only [zb] at u5318 xq2 h5319 xq12 h5332 xq14 a5352 u5353 h5354 h5355 h5356 h5357 a5612 h5613 h5858 w5859 w5860 r5861 r5862 r5863 h5864 h5884 h6004 h6049 w6050 w6051 w6053 w6055 w6054 w6056 w6058 w6059 w6061 w6060 w6063 w6064 w6065 w6067 w6066 w6068 w6072 w6071 a6073 ⊢) <;> omega))⟩
                        · refine sw_sh (ci_sh cq30 t_p0 rfl) ?_
                          refine sw_on (sX9_put cq30 t_p0 (by (try simp only [zp, zo, zq] at u5318 xq2 h5319 xq12 h5332 xq14 a5352 u5353 h5354 h5355 h5356 h5357 a5612 h5613 h5858 w5859 w5860 r5861 r5862 r5863 h5864 h5884 h6004 h6049 ⊢) <;> (try simp only [zz, Int32.reduceToInt, ne_eq] at u5318 xq2 h5319 xq12 h5332 xq14 a5352 u5353 h5354 h5355 h5356 h5357 a5612 h5613 h5858 w5859 w5860 r5861 r5862 r5863 h5864 h5884 h6004 h6049 ⊢) <;> (try simp (disch := omega) only [zb] at u5318 xq2 h5319 xq12 h5332 xq14 a5352 u5353 h5354 h5355 h5356 h5357 a5612 h5613 h5858 w5859 w5860 r5861 r5862 r5863 h5864 h5884 h6004 h6049 ⊢) <;> first | omega | ((try simp (disch := omega) only [zb] at u5318 xq2 h5319 xq12 h5332 xq14 a5352 u5353 h5354 h5355 h5356 h5357 a5612 h5613 h5858 w5859 w5860 r5861 r5862 r5863 h5864 h5884 h6004 h6049 ⊢) <;> omega)) ) ?_
                          intro q28 hqq28
                          obtain ⟨cq28, gq28, xq28⟩ := hqq28
                          have fq28 := fr_trans fq30 gq28 rfl
                          have w6074 := (gq28.2.2 _ _ t_p0 0 rfl).1
                          have w6075 := (gq30.2.2 _ _ t_p0 0 rfl).1
                          have w6076 : mm_I s11 p0 0 = mm_I q2.2 p0 0 := by rw [← es11]; exact rd_k t_p0 tq5 (by decide)
                          have w6078 := rdA_fr (k := 9) (j := 1) gq28 cq30 t_p0 (κ' := 59) rfl rfl rfl
                          have w6079 := rdA_fr (k := 9) (j := 1) gq30 cs11 t_p0 (κ' := 59) rfl rfl rfl
                          have w6081 : rdA s11 p0 9 1 = mm_I s11 q17 ((1 : Int32)).toNatClampNeg := rdA_eq eq17
                          have w6080 : rdA s11 p0 9 1 = rdA q2.2 p0 9 1 := by rw [← es11]; exact rdA_k cq2 t_p0 (κ' := 59) rfl tq5 (by decide)
                          have w6082 := rdA_fr (k := 9) (j := 1) gq2 c0 t_p0 (κ' := 59) rfl rfl rfl
                          have w6084 := rdA_fr (k := 10) (j := 1) gq28 cq30 t_p0 (κ' := 60) rfl rfl rfl
                          have w6085 := rdA_fr (k := 10) (j := 1) gq30 cs11 t_p0 (κ' := 60) rfl rfl rfl
                          have w6086 : rdA s11 p0 10 1 = rdA q2.2 p0 10 1 := by rw [← es11]; exact rdA_j (by decide)
                          have w6088 : rdA q2.2 p0 10 1 = mm_I q2.2 q5 ((1 : Int32)).toNatClampNeg := rdA_eq eq5
                          have w6087 := rdA_fr (k := 10) (j := 1) gq2 c0 t_p0 (κ' := 60) rfl rfl rfl
                          have w6090 := rdA_fr (k := 10) (j := 0) gq28 cq30 t_p0 (κ' := 60) rfl rfl rfl
                          have w6091 := rdA_fr (k := 10) (j := 0) gq30 cs11 t_p0 (κ' := 60) rfl rfl rfl
                          have w6092 : rdA s11 p0 10 0 = -1 := by rw [← es11]; exact rdA_self eq5
                          have w6093 := rdA_fr (k := 9) (j := 0) gq28 cq30 t_p0 (κ' := 59) rfl rfl rfl
                          have w6094 := rdA_fr (k := 9) (j := 0) gq30 cs11 t_p0 (κ' := 59) rfl rfl rfl
                          have w6096 : rdA s11 p0 9 0 = mm_I s11 q17 ((0 : Int32)).toNatClampNeg := rdA_eq eq17
                          have w6095 : rdA s11 p0 9 0 = rdA q2.2 p0 9 0 := by rw [← es11]; exact rdA_k cq2 t_p0 (κ' := 59) rfl tq5 (by decide)
                          have w6097 := rdA_fr (k := 9) (j := 0) gq2 c0 t_p0 (κ' := 59) rfl rfl rfl
                          have w6101 : rdA q2.2 p0 10 0 = mm_I q2.2 q5 ((0 : Int32)).toNatClampNeg := rdA_eq eq5
                          have w6100 := rdA_fr (k := 10) (j := 0) gq2 c0 t_p0 (κ' := 60) rfl rfl rfl
                          have a6102 := zi_and p2 8 (by decide)
                          exact sw_some ⟨cq28, fq28, (by (try simp only [zp, zo, zq] at u5318 xq2 h5319 xq12 h5332 xq14 a5352 u5353 h5354 h5355 h5356 h5357 a5612 h5613 h5858 w5859 w5860 r5861 r5862 r5863 h5864 h5884 h6004 h6049 w6074 w6075 w6076 w6078 w6079 w6081 w6080 w6082 w6084 w6085 w6086 w6088 w6087 w6090 w6091 w6092 w6093 w6094 w6096 w6095 w6097 w6101 w6100 a6102 ⊢) <;> (try simp only [zz, Int32.reduceToInt, ne_eq] at u5318 xq2 h5319 xq12 h5332 xq14 a5352 u5353 h5354 h5355 h5356 h5357 a5612 h5613 h5858 w5859 w5860 r5861 r5862 r5863 h5864 h5884 h6004 h6049 w6074 w6075 w6076 w6078 w6079 w6081 w6080 w6082 w6084 w6085 w6086 w6088 w6087 w6090 w6091 w6092 w6093 w6094 w6096 w6095 w6097 w6101 w6100 a6102 ⊢) <;> (try simp (disch := omega) only [zb] at u5318 xq2 h5319 xq12 h5332 xq14 a5352 u5353 h5354 h5355 h5356 h5357 a5612 h5613 h5858 w5859 w5860 r5861 r5862 r5863 h5864 h5884 h6004 h6049 w6074 w6075 w6076 w6078 w6079 w6081 w6080 w6082 w6084 w6085 w6086 w6088 w6087 w6090 w6091 w6092 w6093 w6094 w6096 w6095 w6097 w6101 w6100 a6102 ⊢) <;> first | omega | ((try simp (disch := omega) only [zb] at u5318 xq2 h5319 xq12 h5332 xq14 a5352 u5353 h5354 h5355 h5356 h5357 a5612 h5613 h5858 w5859 w5860 r5861 r5862 r5863 h5864 h5884 h6004 h6049 w6074 w6075 w6076 w6078 w6079 w6081 w6080 w6082 w6084 w6085 w6086 w6088 w6087 w6090 w6091 w6092 w6093 w6094 w6096 w6095 w6097 w6101 w6100 a6102 ⊢) <;> omega))⟩
                · refine sw_ite (fun h6103 => ?_) (fun h6103 => ?_)
                  · unfold fX9_pair_222
                    unfold fX9_pair_228
                    have w6104 : mm_I s11 q17 ((0 : Int32).toNatClampNeg) = mm_I q2.2 q17 ((0 : Int32).toNatClampNeg) := by rw [← es11]; exact rd_k tq17 tq5 (by decide)
                    have w6105 := (gq2.2.2 _ _ tq17 ((0 : Int32).toNatClampNeg) rfl).1
                    have r6106 := ci_rg c0 tq17 ((0 : Int32).toNatClampNeg) (lo := (-1)) (hi := 3) rfl
                    have r6107 := ci_rg cq2 tq17 ((0 : Int32).toNatClampNeg) (lo := (-1)) (hi := 3) rfl
                    have r6108 := ci_rg cs11 tq17 ((0 : Int32).toNatClampNeg) (lo := (-1)) (hi := 3) rfl
                    refine sw_ite (fun h6109 => ?_) (fun h6109 => ?_)
                    · have w6110 : mm_I s11 p0 0 = mm_I q2.2 p0 0 := by rw [← es11]; exact rd_k t_p0 tq5 (by decide)
                      have w6113 : rdA s11 p0 9 1 = mm_I s11 q17 ((1 : Int32)).toNatClampNeg := rdA_eq eq17
                      have w6112 : rdA s11 p0 9 1 = rdA q2.2 p0 9 1 := by rw [← es11]; exact rdA_k cq2 t_p0 (κ' := 59) rfl tq5 (by decide)
                      have w6114 := rdA_fr (k := 9) (j := 1) gq2 c0 t_p0 (κ' := 59) rfl rfl rfl
                      have w6116 : rdA s11 p0 10 1 = rdA q2.2 p0 10 1 := by rw [← es11]; exact rdA_j (by decide)
                      have w6118 : rdA q2.2 p0 10 1 = mm_I q2.2 q5 ((1 : Int32)).toNatClampNeg := rdA_eq eq5
                      have w6117 := rdA_fr (k := 10) (j := 1) gq2 c0 t_p0 (κ' := 60) rfl rfl rfl
                      have w6120 : rdA s11 p0 10 0 = -1 := by rw [← es11]; exact rdA_self eq5
                      have w6122 : rdA s11 p0 9 0 = mm_I s11 q17 ((0 : Int32)).toNatClampNeg := rdA_eq eq17
                      have w6121 : rdA s11 p0 9 0 = rdA q2.2 p0 9 0 := by rw [← es11]; exact rdA_k cq2 t_p0 (κ' := 59) rfl tq5 (by decide)
                      have w6123 := rdA_fr (k := 9) (j := 0) gq2 c0 t_p0 (κ' := 59) rfl rfl rfl
                      have w6127 : rdA q2.2 p0 10 0 = mm_I q2.2 q5 ((0 : Int32)).toNatClampNeg := rdA_eq eq5
                      have w6126 := rdA_fr (k := 10) (j := 0) gq2 c0 t_p0 (κ' := 60) rfl rfl rfl
                      have a6128 := zi_and p2 8 (by decide)
                      exact sw_some ⟨cs11, fs11, (by (try simp only [zp, zo, zq] at u5318 xq2 h5319 xq12 h5332 xq14 a5352 u5353 h5354 h5355 h5356 h5357 a5612 h5613 h5858 h6103 w6104 w6105 r6106 r6107 r6108 h6109 w6110 w6113 w6112 w6114 w6116 w6118 w6117 w6120 w6122 w6121 w6123 w6127 w6126 a6128 ⊢) <;> (try simp only [zz, Int32.reduceToInt, ne_eq] at u5318 xq2 h5319 xq12 h5332 xq14 a5352 u5353 h5354 h5355 h5356 h5357 a5612 h5613 h5858 h6103 w6104 w6105 r6106 r6107 r6108 h6109 w6110 w6113 w6112 w6114 w6116 w6118 w6117 w6120 w6122 w6121 w6123 w6127 w6126 a6128 ⊢) <;> (try simp (disch := omega) only [zb] at u5318 xq2 h5319 xq12 h5332 xq14 a5352 u5353 h5354 h5355 h5356 h5357 a5612 h5613 h5858 h6103 w6104 w6105 r6106 r6107 r6108 h6109 w6110 w6113 w6112 w6114 w6116 w6118 w6117 w6120 w6122 w6121 w6123 w6127 w6126 a6128 ⊢) <;> first | omega | ((try simp (disch := omega) only [zb] at u5318 xq2 h5319 xq12 h5332 xq14 a5352 u5353 h5354 h5355 h5356 h5357 a5612 h5613 h5858 h6103 w6104 w6105 r6106 r6107 r6108 h6109 w6110 w6113 w6112 w6114 w6116 w6118 w6117 w6120 w6122 w6121 w6123 w6127 w6126 a6128 ⊢) <;> omega))⟩
                    · refine sw_ite (fun h6129 => ?_) (fun h6129 => ?_)
                      · refine sw_ite (fun h6130 => ?_) (fun h6130 => ?_)
                        · have w6131 : mm_I s11 p0 0 = mm_I q2.2 p0 0 := by rw [← es11]; exact rd_k t_p0 tq5 (by decide)
                          have w6134 : rdA s11 p0 9 1 = mm_I s11 q17 ((1 : Int32)).toNatClampNeg := rdA_eq eq17
                          have w6133 : rdA s11 p0 9 1 = rdA q2.2 p0 9 1 := by rw [← es11]; exact rdA_k cq2 t_p0 (κ' := 59) rfl tq5 (by decide)
                          have w6135 := rdA_fr (k := 9) (j := 1) gq2 c0 t_p0 (κ' := 59) rfl rfl rfl
                          have w6137 : rdA s11 p0 10 1 = rdA q2.2 p0 10 1 := by rw [← es11]; exact rdA_j (by decide)
                          have w6139 : rdA q2.2 p0 10 1 = mm_I q2.2 q5 ((1 : Int32)).toNatClampNeg := rdA_eq eq5
                          have w6138 := rdA_fr (k := 10) (j := 1) gq2 c0 t_p0 (κ' := 60) rfl rfl rfl
                          have w6141 : rdA s11 p0 10 0 = -1 := by rw [← es11]; exact rdA_self eq5
                          have w6143 : rdA s11 p0 9 0 = mm_I s11 q17 ((0 : Int32)).toNatClampNeg := rdA_eq eq17
                          have w6142 : rdA s11 p0 9 0 = rdA q2.2 p0 9 0 := by rw [← es11]; exact rdA_k cq2 t_p0 (κ' := 59) rfl tq5 (by decide)
                          have w6144 := rdA_fr (k := 9) (j := 0) gq2 c0 t_p0 (κ' := 59) rfl rfl rfl
                          have w6148 : rdA q2.2 p0 10 0 = mm_I q2.2 q5 ((0 : Int32)).toNatClampNeg := rdA_eq eq5
                          have w6147 := rdA_fr (k := 10) (j := 0) gq2 c0 t_p0 (κ' := 60) rfl rfl rfl
                          have a6149 := zi_and p2 8 (by decide)
                          exact sw_some ⟨cs11, fs11, (by (try simp only [zp, zo, zq] at u5318 xq2 h5319 xq12 h5332 xq14 a5352 u5353 h5354 h5355 h5356 h5357 a5612 h5613 h5858 h6103 w6104 w6105 r6106 r6107 r6108 h6109 h6129 h6130 w6131 w6134 w6133 w6135 w6137 w6139 w6138 w6141 w6143 w6142 w6144 w6148 w6147 a6149 ⊢) <;> (try simp only [zz, Int32.reduceToInt, ne_eq] at u5318 xq2 h5319 xq12 h5332 xq14 a5352 u5353 h5354 h5355 h5356 h5357 a5612 h5613 h5858 h6103 w6104 w6105 r6106 r6107 r6108 h6109 h6129 h6130 w6131 w6134 w6133 w6135 w6137 w6139 w6138 w6141 w6143 w6142 w6144 w6148 w6147 a6149 ⊢) <;> (try simp (disch := omega) only [zb] at u5318 xq2 h5319 xq12 h5332 xq14 a5352 u5353 h5354 h5355 h5356 h5357 a5612 h5613 h5858 h6103 w6104 w6105 r6106 r6107 r6108 h6109 h6129 h6130 w6131 w6134 w6133 w6135 w6137 w6139 w6138 w6141 w6143 w6142 w6144 w6148 w6147 a6149 ⊢) <;> first | omega | ((try simp (disch := omega) only [zb] at u5318 xq2 h5319 xq12 h5332 xq14 a5352 u5353 h5354 h5355 h5356 h5357 a5612 h5613 h5858 h6103 w6104 w6105 r6106 r6107 r6108 h6109 h6129 h6130 w6131 w6134 w6133 w6135 w6137 w6139 w6138 w6141 w6143 w6142 w6144 w6148 w6147 a6149 ⊢) <;> omega))⟩
                        · unfold fX9_pair_250
                          refine sw_ite (fun h6150 => ?_) (fun h6150 => ?_)
                          · unfold fX9_pair_264
                            refine sw_ite (fun h6151 => ?_) (fun h6151 => ?_)
                            · have w6152 : mm_I s11 p0 0 = mm_I q2.2 p0 0 := by rw [← es11]; exact rd_k t_p0 tq5 (by decide)
                              have w6155 : rdA s11 p0 9 1 = mm_I s11 q17 ((1 : Int32)).toNatClampNeg := rdA_eq eq17
                              have w6154 : rdA s11 p0 9 1 = rdA q2.2 p0 9 1 := by rw [← es11]; exact rdA_k cq2 t_p0 (κ' := 59) rfl tq5 (by decide)
                              have w6156 := rdA_fr (k := 9) (j := 1) gq2 c0 t_p0 (κ' := 59) rfl rfl rfl
                              have w6158 : rdA s11 p0 10 1 = rdA q2.2 p0 10 1 := by rw [← es11]; exact rdA_j (by decide)
                              have w6160 : rdA q2.2 p0 10 1 = mm_I q2.2 q5 ((1 : Int32)).toNatClampNeg := rdA_eq eq5
                              have w6159 := rdA_fr (k := 10) (j := 1) gq2 c0 t_p0 (κ' := 60) rfl rfl rfl
                              have w6162 : rdA s11 p0 10 0 = -1 := by rw [← es11]; exact rdA_self eq5
                              have w6164 : rdA s11 p0 9 0 = mm_I s11 q17 ((0 : Int32)).toNatClampNeg := rdA_eq eq17
                              have w6163 : rdA s11 p0 9 0 = rdA q2.2 p0 9 0 := by rw [← es11]; exact rdA_k cq2 t_p0 (κ' := 59) rfl tq5 (by decide)
                              have w6165 := rdA_fr (k := 9) (j := 0) gq2 c0 t_p0 (κ' := 59) rfl rfl rfl
                              have w6169 : rdA q2.2 p0 10 0 = mm_I q2.2 q5 ((0 : Int32)).toNatClampNeg := rdA_eq eq5
                              have w6168 := rdA_fr (k := 10) (j := 0) gq2 c0 t_p0 (κ' := 60) rfl rfl rfl
                              have a6170 := zi_and p2 8 (by decide)
                              exact sw_some ⟨cs11, fs11, (by (try simp only [zp, zo, zq] at u5318 xq2 h5319 xq12 h5332 xq14 a5352 u5353 h5354 h5355 h5356 h5357 a5612 h5613 h5858 h6103 w6104 w6105 r6106 r6107 r6108 h6109 h6129 h6130 h6150 h6151 w6152 w6155 w6154 w6156 w6158 w6160 w6159 w6162 w6164 w6163 w6165 w6169 w6168 a6170 ⊢) <;> (try simp only [zz, Int32.reduceToInt, ne_eq] at u5318 xq2 h5319 xq12 h5332 xq14 a5352 u5353 h5354 h5355 h5356 h5357 a5612 h5613 h5858 h6103 w6104 w6105 r6106 r6107 r6108 h6109 h6129 h6130 h6150 h6151 w6152 w6155 w6154 w6156 w6158 w6160 w6159 w6162 w6164 w6163 w6165 w6169 w6168 a6170 ⊢) <;> (try simp (disch := omega) only [zb] at u5318 xq2 h5319 xq12 h5332 xq14 a5352 u5353 h5354 h5355 h5356 h5357 a5612 h5613 h5858 h6103 w6104 w6105 r6106 r6107 r6108 h6109 h6129 h6130 h6150 h6151 w6152 w6155 w6154 w6156 w6158 w6160 w6159 w6162 w6164 w6163 w6165 w6169 w6168 a6170 ⊢) <;> first | omega | ((try simp (disch := omega) only [zb] at u5318 xq2 h5319 xq12 h5332 xq14 a5352 u5353 h5354 h5355 h5356 h5357 a5612 h5613 h5858 h6103 w6104 w6105 r6106 r6107 r6108 h6109 h6129 h6130 h6150 h6151 w6152 w6155 w6154 w6156 w6158 w6160 w6159 w6162 w6164 w6163 w6165 w6169 w6168 a6170 ⊢) <;> omega))⟩
                            · refine sw_sh (ci_sh cs11 t_p0 rfl) ?_
                              refine sw_on (sX9_put cs11 t_p0 (by (try simp only [zp, zo, zq] at u5318 xq2 h5319 xq12 h5332 xq14 a5352 u5353 h5354 h5355 h5356 h5357 a5612 h5613 h5858 h6103 w6104 w6105 r6106 r6107 r6108 h6109 h6129 h6130 h6150 h6151 ⊢) <;> (try simp only [zz, Int32.reduceToInt, ne_eq] at u5318 xq2 h5319 xq12 h5332 xq14 a5352 u5353 h5354 h5355 h5356 h5357 a5612 h5613 h5858 h6103 w6104 w6105 r6106 r6107 r6108 h6109 h6129 h6130 h6150 h6151 ⊢) <;> (try simp (disch := omega) only [zb] at u5318 xq2 h5319 xq12 h5332 xq14 a5352 u5353 h5354 h5355 h5356 h5357 a5612 h5613 h5858 h6103 w6104 w6105 r6106 r6107 r6108 h6109 h6129 h6130 h6150 h6151 ⊢) <;> first | omega | ((try simp (disch := omega) only [zb] at u5318 xq2 h5319 xq12 h5332 xq14 a5352 u5353 h5354 h5355 h5356 h5357 a5612 h5613 h5858 h6103 w6104 w6105 r6106 r6107 r6108 h6109 h6129 h6130 h6150 h6151 ⊢) <;> omega)) ) ?_
                              intro q28 hqq28
                              obtain ⟨cq28, gq28, xq28⟩ := hqq28
                              have fq28 := fr_trans fs11 gq28 rfl
                              have w6171 := (gq28.2.2 _ _ t_p0 0 rfl).1
                              have w6172 : mm_I s11 p0 0 = mm_I q2.2 p0 0 := by rw [← es11]; exact rd_k t_p0 tq5 (by decide)
                              have w6174 := rdA_fr (k := 9) (j := 1) gq28 cs11 t_p0 (κ' := 59) rfl rfl rfl
                              have w6176 : rdA s11 p0 9 1 = mm_I s11 q17 ((1 : Int32)).toNatClampNeg := rdA_eq eq17
                              have w6175 : rdA s11 p0 9 1 = rdA q2.2 p0 9 1 := by rw [← es11]; exact rdA_k cq2 t_p0 (κ' := 59) rfl tq5 (by decide)
                              have w6177 := rdA_fr (k := 9) (j := 1) gq2 c0 t_p0 (κ' := 59) rfl rfl rfl
                              have w6179 := rdA_fr (k := 10) (j := 1) gq28 cs11 t_p0 (κ' := 60) rfl rfl rfl
                              have w6180 : rdA s11 p0 10 1 = rdA q2.2 p0 10 1 := by rw [← es11]; exact rdA_j (by decide)
                              have w6182 : rdA q2.2 p0 10 1 = mm_I q2.2 q5 ((1 : Int32)).toNatClampNeg := rdA_eq eq5
                              have w6181 := rdA_fr (k := 10) (j := 1) gq2 c0 t_p0 (κ' := 60) rfl rfl rfl
                              have w6184 := rdA_fr (k := 10) (j := 0) gq28 cs11 t_p0 (κ' := 60) rfl rfl rfl
                              have w6185 : rdA s11 p0 10 0 = -1 := by rw [← es11]; exact rdA_self eq5
                              have w6186 := rdA_fr (k := 9) (j := 0) gq28 cs11 t_p0 (κ' := 59) rfl rfl rfl
                              have w6188 : rdA s11 p0 9 0 = mm_I s11 q17 ((0 : Int32)).toNatClampNeg := rdA_eq eq17
                              have w6187 : rdA s11 p0 9 0 = rdA q2.2 p0 9 0 := by rw [← es11]; exact rdA_k cq2 t_p0 (κ' := 59) rfl tq5 (by decide)
                              have w6189 := rdA_fr (k := 9) (j := 0) gq2 c0 t_p0 (κ' := 59) rfl rfl rfl
                              have w6193 : rdA q2.2 p0 10 0 = mm_I q2.2 q5 ((0 : Int32)).toNatClampNeg := rdA_eq eq5
                              have w6192 := rdA_fr (k := 10) (j := 0) gq2 c0 t_p0 (κ' := 60) rfl rfl rfl
                              have a6194 := zi_and p2 8 (by decide)
                              exact sw_some ⟨cq28, fq28, (by (try simp only [zp, zo, zq] at u5318 xq2 h5319 xq12 h5332 xq14 a5352 u5353 h5354 h5355 h5356 h5357 a5612 h5613 h5858 h6103 w6104 w6105 r6106 r6107 r6108 h6109 h6129 h6130 h6150 h6151 w6171 w6172 w6174 w6176 w6175 w6177 w6179 w6180 w6182 w6181 w6184 w6185 w6186 w6188 w6187 w6189 w6193 w6192 a6194 ⊢) <;> (try simp only [zz, Int32.reduceToInt, ne_eq] at u5318 xq2 h5319 xq12 h5332 xq14 a5352 u5353 h5354 h5355 h5356 h5357 a5612 h5613 h5858 h6103 w6104 w6105 r6106 r6107 r6108 h6109 h6129 h6130 h6150 h6151 w6171 w6172 w6174 w6176 w6175 w6177 w6179 w6180 w6182 w6181 w6184 w6185 w6186 w6188 w6187 w6189 w6193 w6192 a6194 ⊢) <;> (try simp (disch := omega) only [zb] at u5318 xq2 h5319 xq12 h5332 xq14 a5352 u5353 h5354 h5355 h5356 h5357 a5612 h5613 h5858 h6103 w6104 w6105 r6106 r6107 r6108 h6109 h6129 h6130 h6150 h6151 w6171 w6172 w6174 w6176 w6175 w6177 w6179 w6180 w6182 w6181 w6184 w6185 w6186 w6188 w6187 w6189 w6193 w6192 a6194 ⊢) <;> first | omega | ((try simp (disch := omega) only [zb] at u5318 xq2 h5319 xq12 h5332 xq14 a5352 u5353 h5354 h5355 h5356 h5357 a5612 h5613 h5858 h6103 w6104 w6105 r6106 r6107 r6108 h6109 h6129 h6130 h6150 h6151 w6171 w6172 w6174 w6176 w6175 w6177 w6179 w6180 w6182 w6181 w6184 w6185 w6186 w6188 w6187 w6189 w6193 w6192 a6194 ⊢) <;> omega))⟩
                          · refine sw_sh (ci_sh cs11 t_p0 rfl) ?_
                            refine sw_on (sX9_put cs11 t_p0 (by (try simp only [zp, zo, zq] at u5318 xq2 h5319 xq12 h5332 xq14 a5352 u5353 h5354 h5355 h5356 h5357 a5612 h5613 h5858 h6103 w6104 w6105 r6106 r6107 r6108 h6109 h6129 h6130 h6150 ⊢) <;> (try simp only [zz, Int32.reduceToInt, ne_eq] at u5318 xq2 h5319 xq12 h5332 xq14 a5352 u5353 h5354 h5355 h5356 h5357 a5612 h5613 h5858 h6103 w6104 w6105 r6106 r6107 r6108 h6109 h6129 h6130 h6150 ⊢) <;> (try simp (disch := omega) only [zb] at u5318 xq2 h5319 xq12 h5332 xq14 a5352 u5353 h5354 h5355 h5356 h5357 a5612 h5613 h5858 h6103 w6104 w6105 r6106 r6107 r6108 h6109 h6129 h6130 h6150 ⊢) <;> first | omega | ((try simp (disch := omega) only [zb] at u5318 xq2 h5319 xq12 h5332 xq14 a5352 u5353 h5354 h5355 h5356 h5357 a5612 h5613 h5858 h6103 w6104 w6105 r6106 r6107 r6108 h6109 h6129 h6130 h6150 ⊢) <;> omega)) ) ?_
                            intro q30 hqq30
                            obtain ⟨cq30, gq30, xq30⟩ := hqq30
                            have fq30 := fr_trans fs11 gq30 rfl
                            unfold fX9_pair_264
                            refine sw_ite (fun h6195 => ?_) (fun h6195 => ?_)
                            · have w6196 := (gq30.2.2 _ _ t_p0 0 rfl).1
                              have w6197 : mm_I s11 p0 0 = mm_I q2.2 p0 0 := by rw [← es11]; exact rd_k t_p0 tq5 (by decide)
                              have w6199 := rdA_fr (k := 9) (j := 1) gq30 cs11 t_p0 (κ' := 59) rfl rfl rfl
                              have w6201 : rdA s11 p0 9 1 = mm_I s11 q17 ((1 : Int32)).toNatClampNeg := rdA_eq eq17
                              have w6200 : rdA s11 p0 9 1 = rdA q2.2 p0 9 1 := by rw [← es11]; exact rdA_k cq2 t_p0 (κ' := 59) rfl tq5 (by decide)
                              have w6202 := rdA_fr (k := 9) (j := 1) gq2 c0 t_p0 (κ' := 59) rfl rfl rfl
                              have w6204 := rdA_fr (k := 10) (j := 1) gq30 cs11 t_p0 (κ' := 60) rfl rfl rfl
                              have w6205 : rdA s11 p0 10 1 = rdA q2.2 p0 10 1 := by rw [← es11]; exact rdA_j (by decide)
                              have w6207 : rdA q2.2 p0 10 1 = mm_I q2.2 q5 ((1 : Int32)).toNatClampNeg := rdA_eq eq5
                              have w6206 := rdA_fr (k := 10) (j := 1) gq2 c0 t_p0 (κ' := 60) rfl rfl rfl
                              have w6209 := rdA_fr (k := 10) (j := 0) gq30 cs11 t_p0 (κ' := 60) rfl rfl rfl
                              have w6210 : rdA s11 p0 10 0 = -1 := by rw [← es11]; exact rdA_self eq5
                              have w6211 := rdA_fr (k := 9) (j := 0) gq30 cs11 t_p0 (κ' := 59) rfl rfl rfl
                              have w6213 : rdA s11 p0 9 0 = mm_I s11 q17 ((0 : Int32)).toNatClampNeg := rdA_eq eq17
                              have w6212 : rdA s11 p0 9 0 = rdA q2.2 p0 9 0 := by rw [← es11]; exact rdA_k cq2 t_p0 (κ' := 59) rfl tq5 (by decide)
                              have w6214 := rdA_fr (k := 9) (j := 0) gq2 c0 t_p0 (κ' := 59) rfl rfl rfl
                              have w6218 : rdA q2.2 p0 10 0 = mm_I q2.2 q5 ((0 : Int32)).toNatClampNeg := rdA_eq eq5
                              have w6217 := rdA_fr (k := 10) (j := 0) gq2 c0 t_p0 (κ' := 60) rfl rfl rfl
                              have a6219 := zi_and p2 8 (by decide)
                              exact sw_some ⟨cq30, fq30, (by (try simp only [zp, zo, zq] at u5318 xq2 h5319 xq12 h5332 xq14 a5352 u5353 h5354 h5355 h5356 h5357 a5612 h5613 h5858 h6103 w6104 w6105 r6106 r6107 r6108 h6109 h6129 h6130 h6150 h6195 w6196 w6197 w6199 w6201 w6200 w6202 w6204 w6205 w6207 w6206 w6209 w6210 w6211 w6213 w6212 w6214 w6218 w6217 a6219 ⊢) <;> (try simp only [zz, Int32.reduceToInt, ne_eq] at u5318 xq2 h5319 xq12 h5332 xq14 a5352 u5353 h5354 h5355 h5356 h5357 a5612 h5613 h5858 h6103 w6104 w6105 r6106 r6107 r6108 h6109 h6129 h6130 h6150 h6195 w6196 w6197 w6199 w6201 w6200 w6202 w6204 w6205 w6207 w6206 w6209 w6210 w6211 w6213 w6212 w6214 w6218 w6217 a6219 ⊢) <;> (try simp (disch := omega) only [zb] at u5318 xq2 h5319 xq12 h5332 xq14 a5352 u5353 h5354 h5355 h5356 h5357 a5612 h5613 h5858 h6103 w6104 w6105 r6106 r6107 r6108 h6109 h6129 h6130 h6150 h6195 w6196 w6197 w6199 w6201 w6200 w6202 w6204 w6205 w6207 w6206 w6209 w6210 w6211 w6213 w6212 w6214 w6218 w6217 a6219 ⊢) <;> first | omega | ((try simp (disch := omega) only [zb] at u5318 xq2 h5319 xq12 h5332 xq14 a5352 u5353 h5354 h5355 h5356 h5357 a5612 h5613 h5858 h6103 w6104 w6105 r6106 r6107 r6108 h6109 h6129 h6130 h6150 h6195 w6196 w6197 w6199 w6201 w6200 w6202 w6204 w6205 w6207 w6206 w6209 w6210 w6211 w6213 w6212 w6214 w6218 w6217 a6219 ⊢) <;> omega))⟩
                            · refine sw_sh (ci_sh cq30 t_p0 rfl) ?_
                              refine sw_on (sX9_put cq30 t_p0 (by (try simp only [zp, zo, zq] at u5318 xq2 h5319 xq12 h5332 xq14 a5352 u5353 h5354 h5355 h5356 h5357 a5612 h5613 h5858 h6103 w6104 w6105 r6106 r6107 r6108 h6109 h6129 h6130 h6150 h6195 ⊢) <;> (try simp only [zz, Int32.reduceToInt, ne_eq] at u5318 xq2 h5319 xq12 h5332 xq14 a5352 u5353 h5354 h5355 h5356 h5357 a5612 h5613 h5858 h6103 w6104 w6105 r6106 r6107 r6108 h6109 h6129 h6130 h6150 h6195 ⊢) <;> (try simp (disch := omega) only [zb] at u5318 xq2 h5319 xq12 h5332 xq14 a5352 u5353 h5354 h5355 h5356 h5357 a5612 h5613 h5858 h6103 w6104 w6105 r6106 r6107 r6108 h6109 h6129 h6130 h6150 h6195 ⊢) <;> first | omega | ((try simp (disch := omega) only [zb] at u5318 xq2 h5319 xq12 h5332 xq14 a5352 u5353 h5354 h5355 h5356 h5357 a5612 h5613 h5858 h6103 w6104 w6105 r6106 r6107 r6108 h6109 h6129 h6130 h6150 h6195 ⊢) <;> omega)) ) ?_
                              intro q28 hqq28
                              obtain ⟨cq28, gq28, xq28⟩ := hqq28
                              have fq28 := fr_trans fq30 gq28 rfl
                              have w6220 := (gq28.2.2 _ _ t_p0 0 rfl).1
                              have w6221 := (gq30.2.2 _ _ t_p0 0 rfl).1
                              have w6222 : mm_I s11 p0 0 = mm_I q2.2 p0 0 := by rw [← es11]; exact rd_k t_p0 tq5 (by decide)
                              have w6224 := rdA_fr (k := 9) (j := 1) gq28 cq30 t_p0 (κ' := 59) rfl rfl rfl
                              have w6225 := rdA_fr (k := 9) (j := 1) gq30 cs11 t_p0 (κ' := 59) rfl rfl rfl
                              have w6227 : rdA s11 p0 9 1 = mm_I s11 q17 ((1 : Int32)).toNatClampNeg := rdA_eq eq17
                              have w6226 : rdA s11 p0 9 1 = rdA q2.2 p0 9 1 := by rw [← es11]; exact rdA_k cq2 t_p0 (κ' := 59) rfl tq5 (by decide)
                              have w6228 := rdA_fr (k := 9) (j := 1) gq2 c0 t_p0 (κ' := 59) rfl rfl rfl
                              have w6230 := rdA_fr (k := 10) (j := 1) gq28 cq30 t_p0 (κ' := 60) rfl rfl rfl
                              have w6231 := rdA_fr (k := 10) (j := 1) gq30 cs11 t_p0 (κ' := 60) rfl rfl rfl
                              have w6232 : rdA s11 p0 10 1 = rdA q2.2 p0 10 1 := by rw [← es11]; exact rdA_j (by decide)
                              have w6234 : rdA q2.2 p0 10 1 = mm_I q2.2 q5 ((1 : Int32)).toNatClampNeg := rdA_eq eq5
                              have w6233 := rdA_fr (k := 10) (j := 1) gq2 c0 t_p0 (κ' := 60) rfl rfl rfl
                              have w6236 := rdA_fr (k := 10) (j := 0) gq28 cq30 t_p0 (κ' := 60) rfl rfl rfl
                              have w6237 := rdA_fr (k := 10) (j := 0) gq30 cs11 t_p0 (κ' := 60) rfl rfl rfl
                              have w6238 : rdA s11 p0 10 0 = -1 := by rw [← es11]; exact rdA_self eq5
                              have w6239 := rdA_fr (k := 9) (j := 0) gq28 cq30 t_p0 (κ' := 59) rfl rfl rfl
                              have w6240 := rdA_fr (k := 9) (j := 0) gq30 cs11 t_p0 (κ' := 59) rfl rfl rfl
                              have w6242 : rdA s11 p0 9 0 = mm_I s11 q17 ((0 : Int32)).toNatClampNeg := rdA_eq eq17
                              have w6241 : rdA s11 p0 9 0 = rdA q2.2 p0 9 0 := by rw [← es11]; exact rdA_k cq2 t_p0 (κ' := 59) rfl tq5 (by decide)
                              have w6243 := rdA_fr (k := 9) (j := 0) gq2 c0 t_p0 (κ' := 59) rfl rfl rfl
                              have w6247 : rdA q2.2 p0 10 0 = mm_I q2.2 q5 ((0 : Int32)).toNatClampNeg := rdA_eq eq5
                              have w6246 := rdA_fr (k := 10) (j := 0) gq2 c0 t_p0 (κ' := 60) rfl rfl rfl
                              have a6248 := zi_and p2 8 (by decide)
                              exact sw_some ⟨cq28, fq28, (by (try simp only [zp, zo, zq] at u5318 xq2 h5319 xq12 h5332 xq14 a5352 u5353 h5354 h5355 h5356 h5357 a5612 h5613 h5858 h6103 w6104 w6105 r6106 r6107 r6108 h6109 h6129 h6130 h6150 h6195 w6220 w6221 w6222 w6224 w6225 w6227 w6226 w6228 w6230 w6231 w6232 w6234 w6233 w6236 w6237 w6238 w6239 w6240 w6242 w6241 w6243 w6247 w6246 a6248 ⊢) <;> (try simp only [zz, Int32.reduceToInt, ne_eq] at u5318 xq2 h5319 xq12 h5332 xq14 a5352 u5353 h5354 h5355 h5356 h5357 a5612 h5613 h5858 h6103 w6104 w6105 r6106 r6107 r6108 h6109 h6129 h6130 h6150 h6195 w6220 w6221 w6222 w6224 w6225 w6227 w6226 w6228 w6230 w6231 w6232 w6234 w6233 w6236 w6237 w6238 w6239 w6240 w6242 w6241 w6243 w6247 w6246 a6248 ⊢) <;> (try simp (disch := omega) only [zb] at u5318 xq2 h5319 xq12 h5332 xq14 a5352 u5353 h5354 h5355 h5356 h5357 a5612 h5613 h5858 h6103 w6104 w6105 r6106 r6107 r6108 h6109 h6129 h6130 h6150 h6195 w6220 w6221 w6222 w6224 w6225 w6227 w6226 w6228 w6230 w6231 w6232 w6234 w6233 w6236 w6237 w6238 w6239 w6240 w6242 w6241 w6243 w6247 w6246 a6248 ⊢) <;> first | omega | ((try simp (disch := omega) only [zb] at u5318 xq2 h5319 xq12 h5332 xq14 a5352 u5353 h5354 h5355 h5356 h5357 a5612 h5613 h5858 h6103 w6104 w6105 r6106 r6107 r6108 h6109 h6129 h6130 h6150 h6195 w6220 w6221 w6222 w6224 w6225 w6227 w6226 w6228 w6230 w6231 w6232 w6234 w6233 w6236 w6237 w6238 w6239 w6240 w6242 w6241 w6243 w6247 w6246 a6248 ⊢) <;> omega))⟩
                      · unfold fX9_pair_250
                        refine sw_ite (fun h6249 => ?_) (fun h6249 => ?_)
                        · unfold fX9_pair_264
                          refine sw_ite (fun h6250 => ?_) (fun h6250 => ?_)
                          · have w6251 : mm_I s11 p0 0 = mm_I q2.2 p0 0 := by rw [← es11]; exact rd_k t_p0 tq5 (by decide)
                            have w6254 : rdA s11 p0 9 1 = mm_I s11 q17 ((1 : Int32)).toNatClampNeg := rdA_eq eq17
                            have w6253 : rdA s11 p0 9 1 = rdA q2.2 p0 9 1 := by rw [← es11]; exact rdA_k cq2 t_p0 (κ' := 59) rfl tq5 (by decide)
                            have w6255 := rdA_fr (k := 9) (j := 1) gq2 c0 t_p0 (κ' := 59) rfl rfl rfl
                            have w6257 : rdA s11 p0 10 1 = rdA q2.2 p0 10 1 := by rw [← es11]; exact rdA_j (by decide)
                            have w6259 : rdA q2.2 p0 10 1 = mm_I q2.2 q5 ((1 : Int32)).toNatClampNeg := rdA_eq eq5
                            have w6258 := rdA_fr (k := 10) (j := 1) gq2 c0 t_p0 (κ' := 60) rfl rfl rfl
                            have w6261 : rdA s11 p0 10 0 = -1 := by rw [← es11]; exact rdA_self eq5
                            have w6263 : rdA s11 p0 9 0 = mm_I s11 q17 ((0 : Int32)).toNatClampNeg := rdA_eq eq17
                            have w6262 : rdA s11 p0 9 0 = rdA q2.2 p0 9 0 := by rw [← es11]; exact rdA_k cq2 t_p0 (κ' := 59) rfl tq5 (by decide)
                            have w6264 := rdA_fr (k := 9) (j := 0) gq2 c0 t_p0 (κ' := 59) rfl rfl rfl
                            have w6268 : rdA q2.2 p0 10 0 = mm_I q2.2 q5 ((0 : Int32)).toNatClampNeg := rdA_eq eq5
                            have w6267 := rdA_fr (k := 10) (j := 0) gq2 c0 t_p0 (κ' := 60) rfl rfl rfl
                            have a6269 := zi_and p2 8 (by decide)
                            exact sw_some ⟨cs11, fs11, (by (try simp only [zp, zo, zq] at u5318 xq2 h5319 xq12 h5332 xq14 a5352 u5353 h5354 h5355 h5356 h5357 a5612 h5613 h5858 h6103 w6104 w6105 r6106 r6107 r6108 h6109 h6129 h6249 h6250 w6251 w6254 w6253 w6255 w6257 w6259 w6258 w6261 w6263 w6262 w6264 w6268 w6267 a6269 ⊢) <;> (try simp only [zz, Int32.reduceToInt, ne_eq] at u5318 xq2 h5319 xq12 h5332 xq14 a5352 u5353 h5354 h5355 h5356 h5357 a5612 h5613 h5858 h6103 w6104 w6105 r6106 r6107 r6108 h6109 h6129 h6249 h6250 w6251 w6254 w6253 w6255 w6257 w6259 w6258 w6261 w6263 w6262 w6264 w6268 w6267 a6269 ⊢) <;> (try simp (disch := omega) only [zb] at u5318 xq2 h5319 xq12 h5332 xq14 a5352 u5353 h5354 h5355 h5356 h5357 a5612 h5613 h5858 h6103 w6104 w6105 r6106 r6107 r6108 h6109 h6129 h6249 h6250 w6251 w6254 w6253 w6255 w6257 w6259 w6258 w6261 w6263 w6262 w6264 w6268 w6267 a6269 ⊢) <;> first | omega | ((try simp (disch := omega) only [zb] at u5318 xq2 h5319 xq12 h5332 xq14 a5352 u5353 h5354 h5355 h5356 h5357 a5612 h5613 h5858 h6103 w6104 w6105 r6106 r6107 r6108 h6109 h6129 h6249 h6250 w6251 w6254 w6253 w6255 w6257 w6259 w6258 w6261 w6263 w6262 w6264 w6268 w6267 a6269 ⊢) <;> omega))⟩
                          · refine sw_sh (ci_sh cs11 t_p0 rfl) ?_
                            refine sw_on (sX9_put cs11 t_p0 (by (try simp only [zp, zo, zq] at u5318 xq2 h5319 xq12 h5332 xq14 a5352 u5353 h5354 h5355 h5356 h5357 a5612 h5613 h5858 h6103 w6104 w6105 r6106 r6107 r6108 h6109 h6129 h6249 h6250 ⊢) <;> (try simp only [zz, Int32.reduceToInt, ne_eq] at u5318 xq2 h5319 xq12 h5332 xq14 a5352 u5353 h5354 h5355 h5356 h5357 a5612 h5613 h5858 h6103 w6104 w6105 r6106 r6107 r6108 h6109 h6129 h6249 h6250 ⊢) <;> (try simp (disch := omega) only [zb] at u5318 xq2 h5319 xq12 h5332 xq14 a5352 u5353 h5354 h5355 h5356 h5357 a5612 h5613 h5858 h6103 w6104 w6105 r6106 r6107 r6108 h6109 h6129 h6249 h6250 ⊢) <;> first | omega | ((try simp (disch := omega) only [zb] at u5318 xq2 h5319 xq12 h5332 xq14 a5352 u5353 h5354 h5355 h5356 h5357 a5612 h5613 h5858 h6103 w6104 w6105 r6106 r6107 r6108 h6109 h6129 h6249 h6250 ⊢) <;> omega)) ) ?_
                            intro q28 hqq28
                            obtain ⟨cq28, gq28, xq28⟩ := hqq28
                            have fq28 := fr_trans fs11 gq28 rfl
                            have w6270 := (gq28.2.2 _ _ t_p0 0 rfl).1
                            have w6271 : mm_I s11 p0 0 = mm_I q2.2 p0 0 := by rw [← es11]; exact rd_k t_p0 tq5 (by decide)
                            have w6273 := rdA_fr (k := 9) (j := 1) gq28 cs11 t_p0 (κ' := 59) rfl rfl rfl
                            have w6275 : rdA s11 p0 9 1 = mm_I s11 q17 ((1 : Int32)).toNatClampNeg := rdA_eq eq17
                            have w6274 : rdA s11 p0 9 1 = rdA q2.2 p0 9 1 := by rw [← es11]; exact rdA_k cq2 t_p0 (κ' := 59) rfl tq5 (by decide)
                            have w6276 := rdA_fr (k := 9) (j := 1) gq2 c0 t_p0 (κ' := 59) rfl rfl rfl
                            have w6278 := rdA_fr (k := 10) (j := 1) gq28 cs11 t_p0 (κ' := 60) rfl rfl rfl
                            have w6279 : rdA s11 p0 10 1 = rdA q2.2 p0 10 1 := by rw [← es11]; exact rdA_j (by decide)
                            have w6281 : rdA q2.2 p0 10 1 = mm_I q2.2 q5 ((1 : Int32)).toNatClampNeg := rdA_eq eq5
                            have w6280 := rdA_fr (k := 10) (j := 1) gq2 c0 t_p0 (κ' := 60) rfl rfl rfl
                            have w6283 := rdA_fr (k := 10) (j := 0) gq28 cs11 t_p0 (κ' := 60) rfl rfl rfl
                            have w6284 : rdA s11 p0 10 0 = -1 := by rw [← es11]; exact rdA_self eq5
                            have w6285 := rdA_fr (k := 9) (j := 0) gq28 cs11 t_p0 (κ' := 59) rfl rfl rfl
                            have w6287 : rdA s11 p0 9 0 = mm_I s11 q17 ((0 : Int32)).toNatClampNeg := rdA_eq eq17
                            have w6286 : rdA s11 p0 9 0 = rdA q2.2 p0 9 0 := by rw [← es11]; exact rdA_k cq2 t_p0 (κ' := 59) rfl tq5 (by decide)
                            have w6288 := rdA_fr (k := 9) (j := 0) gq2 c0 t_p0 (κ' := 59) rfl rfl rfl
                            have w6292 : rdA q2.2 p0 10 0 = mm_I q2.2 q5 ((0 : Int32)).toNatClampNeg := rdA_eq eq5
                            have w6291 := rdA_fr (k := 10) (j := 0) gq2 c0 t_p0 (κ' := 60) rfl rfl rfl
                            have a6293 := zi_and p2 8 (by decide)
                            exact sw_some ⟨cq28, fq28, (by (try simp only [zp, zo, zq] at u5318 xq2 h5319 xq12 h5332 xq14 a5352 u5353 h5354 h5355 h5356 h5357 a5612 h5613 h5858 h6103 w6104 w6105 r6106 r6107 r6108 h6109 h6129 h6249 h6250 w6270 w6271 w6273 w6275 w6274 w6276 w6278 w6279 w6281 w6280 w6283 w6284 w6285 w6287 w6286 w6288 w6292 w6291 a6293 ⊢) <;> (try simp only [zz, Int32.reduceToInt, ne_eq] at u5318 xq2 h5319 xq12 h5332 xq14 a5352 u5353 h5354 h5355 h5356 h5357 a5612 h5613 h5858 h6103 w6104 w6105 r6106 r6107 r6108 h6109 h6129 h6249 h6250 w6270 w6271 w6273 w6275 w6274 w6276 w6278 w6279 w6281 w6280 w6283 w6284 w6285 w6287 w6286 w6288 w6292 w6291 a6293 ⊢) <;> (try simp (disch := omega) only [zb] at u5318 xq2 h5319 xq12 h5332 xq14 a5352 u5353 h5354 h5355 h5356 h5357 a5612 h5613 h5858 h6103 w6104 w6105 r6106 r6107 r6108 h6109 h6129 h6249 h6250 w6270 w6271 w6273 w6275 w6274 w6276 w6278 w6279 w6281 w6280 w6283 w6284 w6285 w6287 w6286 w6288 w6292 w6291 a6293 ⊢) <;> first | omega | ((try simp (disch := omega) only [zb] at u5318 xq2 h5319 xq12 h5332 xq14 a5352 u5353 h5354 h5355 h5356 h5357 a5612 h5613 h5858 h6103 w6104 w6105 r6106 r6107 r6108 h6109 h6129 h6249 h6250 w6270 w6271 w6273 w6275 w6274 w6276 w6278 w6279 w6281 w6280 w6283 w6284 w6285 w6287 w6286 w6288 w6292 w6291 a6293 ⊢) <;> omega))⟩
                        · refine sw_sh (ci_sh cs11 t_p0 rfl) ?_
                          refine sw_on (sX9_put cs11 t_p0 (by (try simp only [zp, zo, zq] at u5318 xq2 h5319 xq12 h5332 xq14 a5352 u5353 h5354 h5355 h5356 h5357 a5612 h5613 h5858 h6103 w6104 w6105 r6106 r6107 r6108 h6109 h6129 h6249 ⊢) <;> (try simp only [zz, Int32.reduceToInt, ne_eq] at u5318 xq2 h5319 xq12 h5332 xq14 a5352 u5353 h5354 h5355 h5356 h5357 a5612 h5613 h5858 h6103 w6104 w6105 r6106 r6107 r6108 h6109 h6129 h6249 ⊢) <;> (try simp (disch := omega) only [zb] at u5318 xq2 h5319 xq12 h5332 xq14 a5352 u5353 h5354 h5355 h5356 h5357 a5612 h5613 h5858 h6103 w6104 w6105 r6106 r6107 r6108 h6109 h6129 h6249 ⊢) <;> first | omega | ((try simp (disch := omega) only [zb] at u5318 xq2 h5319 xq12 h5332 xq14 a5352 u5353 h5354 h5355 h5356 h5357 a5612 h5613 h5858 h6103 w6104 w6105 r6106 r6107 r6108 h6109 h6129 h6249 ⊢) <;> omega)) ) ?_
                          intro q30 hqq30
                          obtain ⟨cq30, gq30, xq30⟩ := hqq30
                          have fq30 := fr_trans fs11 gq30 rfl
                          unfold fX9_pair_264
                          refine sw_ite (fun h6294 => ?_) (fun h6294 => ?_)
                          · have w6295 := (gq30.2.2 _ _ t_p0 0 rfl).1
                            have w6296 : mm_I s11 p0 0 = mm_I q2.2 p0 0 := by rw [← es11]; exact rd_k t_p0 tq5 (by decide)
                            have w6298 := rdA_fr (k := 9) (j := 1) gq30 cs11 t_p0 (κ' := 59) rfl rfl rfl
                            have w6300 : rdA s11 p0 9 1 = mm_I s11 q17 ((1 : Int32)).toNatClampNeg := rdA_eq eq17
                            have w6299 : rdA s11 p0 9 1 = rdA q2.2 p0 9 1 := by rw [← es11]; exact rdA_k cq2 t_p0 (κ' := 59) rfl tq5 (by decide)
                            have w6301 := rdA_fr (k := 9) (j := 1) gq2 c0 t_p0 (κ' := 59) rfl rfl rfl
                            have w6303 := rdA_fr (k := 10) (j := 1) gq30 cs11 t_p0 (κ' := 60) rfl rfl rfl
                            have w6304 : rdA s11 p0 10 1 = rdA q2.2 p0 10 1 := by rw [← es11]; exact rdA_j (by decide)
                            have w6306 : rdA q2.2 p0 10 1 = mm_I q2.2 q5 ((1 : Int32)).toNatClampNeg := rdA_eq eq5
                            have w6305 := rdA_fr (k := 10) (j := 1) gq2 c0 t_p0 (κ' := 60) rfl rfl rfl
                            have w6308 := rdA_fr (k := 10) (j := 0) gq30 cs11 t_p0 (κ' := 60) rfl rfl rfl
                            have w6309 : rdA s11 p0 10 0 = -1 := by rw [← es11]; exact rdA_self eq5
                            have w6310 := rdA_fr (k := 9) (j := 0) gq30 cs11 t_p0 (κ' := 59) rfl rfl rfl
                            have w6312 : rdA s11 p0 9 0 = mm_I s11 q17 ((0 : Int32)).toNatClampNeg := rdA_eq eq17
                            have w6311 : rdA s11 p0 9 0 = rdA q2.2 p0 9 0 := by rw [← es11]; exact rdA_k cq2 t_p0 (κ' := 59) rfl tq5 (by decide)
                            have w6313 := rdA_fr (k := 9) (j := 0) gq2 c0 t_p0 (κ' := 59) rfl rfl rfl
                            have w6317 : rdA q2.2 p0 10 0 = mm_I q2.2 q5 ((0 : Int32)).toNatClampNeg := rdA_eq eq5
                            have w6316 := rdA_fr (k := 10) (j := 0) gq2 c0 t_p0 (κ' := 60) rfl rfl rfl
                            have a6318 := zi_and p2 8 (by decide)
                            exact sw_some ⟨cq30, fq30, (by (try simp only [zp, zo, zq] at u5318 xq2 h5319 xq12 h5332 xq14 a5352 u5353 h5354 h5355 h5356 h5357 a5612 h5613 h5858 h6103 w6104 w6105 r6106 r6107 r6108 h6109 h6129 h6249 h6294 w6295 w6296 w6298 w6300 w6299 w6301 w6303 w6304 w6306 w6305 w6308 w6309 w6310 w6312 w6311 w6313 w6317 w6316 a6318 ⊢) <;> (try simp only [zz, Int32.reduceToInt, ne_eq] at u5318 xq2 h5319 xq12 h5332 xq14 a5352 u5353 h5354 h5355 h5356 h5357 a5612 h5613 h5858 h6103 w6104 w6105 r6106 r6107 r6108 h6109 h6129 h6249 h6294 w6295 w6296 w6298 w6300 w6299 w6301 w6303 w6304 w6306 w6305 w6308 w6309 w6310 w6312 w6311 w6313 w6317 w6316 a6318 ⊢) <;> (try simp (disch := omega) only [zb] at u5318 xq2 h5319 xq12 h5332 xq14 a5352 u5353 h5354 h5355 h5356 h5357 a5612 h5613 h5858 h6103 w6104 w6105 r6106 r6107 r6108 h6109 h6129 h6249 h6294 w6295 w6296 w6298 w6300 w6299 w6301 w6303 w6304 w6306 w6305 w6308 w6309 w6310 w6312 w6311 w6313 w6317 w6316 a6318 ⊢) <;> first | omega | ((try simp (disch := omega) only [zb] at u5318 xq2 h5319 xq12 h5332 xq14 a5352 u5353 h5354 h5355 h5356 h5357 a5612 h5613 h5858 h6103 w6104 w6105 r6106 r6107 r6108 h6109 h6129 h6249 h6294 w6295 w6296 w6298 w6300 w6299 w6301 w6303 w6304 w6306 w6305 w6308 w6309 w6310 w6312 w6311 w6313 w6317 w6316 a6318 ⊢) <;> omega))⟩
                          · refine sw_sh (ci_sh cq30 t_p0 rfl) ?_
                            refine sw_on (sX9_put cq30 t_p0 (by (try simp only [zp, zo, zq] at u5318 xq2 h5319 xq12 h5332 xq14 a5352 u5353 h5354 h5355 h5356 h5357 a5612 h5613 h5858 h6103 w6104 w6105 r6106 r6107 r6108 h6109 h6129 h6249 h6294 ⊢) <;> (try simp only [zz, Int32.reduceToInt, ne_eq] at u5318 xq2 h5319 xq12 h5332 xq14 a5352 u5353 h5354 h5355 h5356 h5357 a5612 h5613 h5858 h6103 w6104 w6105 r6106 r6107 r6108 h6109 h6129 h6249 h6294 ⊢) <;> (try simp (disch := omega) only [zb] at u5318 xq2 h5319 xq12 h5332 xq14 a5352 u5353 h5354 h5355 h5356 h5357 a5612 h5613 h5858 h6103 w6104 w6105 r6106 r6107 r6108 h6109 h6129 h6249 h6294 ⊢) <;> first | omega | ((try simp (disch := omega) only [zb] at u5318 xq2 h5319 xq12 h5332 xq14 a5352 u5353 h5354 h5355 h5356 h5357 a5612 h5613 h5858 h6103 w6104 w6105 r6106 r6107 r6108 h6109 h6129 h6249 h6294 ⊢) <;> omega)) ) ?_
                            intro q28 hqq28
                            obtain ⟨cq28, gq28, xq28⟩ := hqq28
                            have fq28 := fr_trans fq30 gq28 rfl
                            have w6319 := (gq28.2.2 _ _ t_p0 0 rfl).1
                            have w6320 := (gq30.2.2 _ _ t_p0 0 rfl).1
                            have w6321 : mm_I s11 p0 0 = mm_I q2.2 p0 0 := by rw [← es11]; exact rd_k t_p0 tq5 (by decide)
                            have w6323 := rdA_fr (k := 9) (j := 1) gq28 cq30 t_p0 (κ' := 59) rfl rfl rfl
                            have w6324 := rdA_fr (k := 9) (j := 1) gq30 cs11 t_p0 (κ' := 59) rfl rfl rfl
                            have w6326 : rdA s11 p0 9 1 = mm_I s11 q17 ((1 : Int32)).toNatClampNeg := rdA_eq eq17
                            have w6325 : rdA s11 p0 9 1 = rdA q2.2 p0 9 1 := by rw [← es11]; exact rdA_k cq2 t_p0 (κ' := 59) rfl tq5 (by decide)
                            have w6327 := rdA_fr (k := 9) (j := 1) gq2 c0 t_p0 (κ' := 59) rfl rfl rfl
                            have w6329 := rdA_fr (k := 10) (j := 1) gq28 cq30 t_p0 (κ' := 60) rfl rfl rfl
                            have w6330 := rdA_fr (k := 10) (j := 1) gq30 cs11 t_p0 (κ' := 60) rfl rfl rfl
                            have w6331 : rdA s11 p0 10 1 = rdA q2.2 p0 10 1 := by rw [← es11]; exact rdA_j (by decide)
                            have w6333 : rdA q2.2 p0 10 1 = mm_I q2.2 q5 ((1 : Int32)).toNatClampNeg := rdA_eq eq5
                            have w6332 := rdA_fr (k := 10) (j := 1) gq2 c0 t_p0 (κ' := 60) rfl rfl rfl
                            have w6335 := rdA_fr (k := 10) (j := 0) gq28 cq30 t_p0 (κ' := 60) rfl rfl rfl
                            have w6336 := rdA_fr (k := 10) (j := 0) gq30 cs11 t_p0 (κ' := 60) rfl rfl rfl
                            have w6337 : rdA s11 p0 10 0 = -1 := by rw [← es11]; exact rdA_self eq5
                            have w6338 := rdA_fr (k := 9) (j := 0) gq28 cq30 t_p0 (κ' := 59) rfl rfl rfl
                            have w6339 := rdA_fr (k := 9) (j := 0) gq30 cs11 t_p0 (κ' := 59) rfl rfl rfl
                            have w6341 : rdA s11 p0 9 0 = mm_I s11 q17 ((0 : Int32)).toNatClampNeg := rdA_eq eq17
                            have w6340 : rdA s11 p0 9 0 = rdA q2.2 p0 9 0 := by rw [← es11]; exact rdA_k cq2 t_p0 (κ' := 59) rfl tq5 (by decide)
                            have w6342 := rdA_fr (k := 9) (j := 0) gq2 c0 t_p0 (κ' := 59) rfl rfl rfl
                            have w6346 : rdA q2.2 p0 10 0 = mm_I q2.2 q5 ((0 : Int32)).toNatClampNeg := rdA_eq eq5
                            have w6345 := rdA_fr (k := 10) (j := 0) gq2 c0 t_p0 (κ' := 60) rfl rfl rfl
                            have a6347 := zi_and p2 8 (by decide)
                            exact sw_some ⟨cq28, fq28, (by (try simp only [zp, zo, zq] at u5318 xq2 h5319 xq12 h5332 xq14 a5352 u5353 h5354 h5355 h5356 h5357 a5612 h5613 h5858 h6103 w6104 w6105 r6106 r6107 r6108 h6109 h6129 h6249 h6294 w6319 w6320 w6321 w6323 w6324 w6326 w6325 w6327 w6329 w6330 w6331 w6333 w6332 w6335 w6336 w6337 w6338 w6339 w6341 w6340 w6342 w6346 w6345 a6347 ⊢) <;> (try simp only [zz, Int32.reduceToInt, ne_eq] at u5318 xq2 h5319 xq12 h5332 xq14 a5352 u5353 h5354 h5355 h5356 h5357 a5612 h5613 h5858 h6103 w6104 w6105 r6106 r6107 r6108 h6109 h6129 h6249 h6294 w6319 w6320 w6321 w6323 w6324 w6326 w6325 w6327 w6329 w6330 w6331 w6333 w6332 w6335 w6336 w6337 w6338 w6339 w6341 w6340 w6342 w6346 w6345 a6347 ⊢) <;> (try simp (disch := omega) only [zb] at u5318 xq2 h5319 xq12 h5332 xq14 a5352 u5353 h5354 h5355 h5356 h5357 a5612 h5613 h5858 h6103 w6104 w6105 r6106 r6107 r6108 h6109 h6129 h6249 h6294 w6319 w6320 w6321 w6323 w6324 w6326 w6325 w6327 w6329 w6330 w6331 w6333 w6332 w6335 w6336 w6337 w6338 w6339 w6341 w6340 w6342 w6346 w6345 a6347 ⊢) <;> first | omega | ((try simp (disch := omega) only [zb] at u5318 xq2 h5319 xq12 h5332 xq14 a5352 u5353 h5354 h5355 h5356 h5357 a5612 h5613 h5858 h6103 w6104 w6105 r6106 r6107 r6108 h6109 h6129 h6249 h6294 w6319 w6320 w6321 w6323 w6324 w6326 w6325 w6327 w6329 w6330 w6331 w6333 w6332 w6335 w6336 w6337 w6338 w6339 w6341 w6340 w6342 w6346 w6345 a6347 ⊢) <;> omega))⟩
                  · unfold fX9_pair_227
                    unfold fX9_pair_228
                    have w6348 : mm_I s11 q17 ((0 : Int32).toNatClampNeg) = mm_I q2.2 q17 ((0 : Int32).toNatClampNeg) := by rw [← es11]; exact rd_k tq17 tq5 (by decide)
                    have w6349 := (gq2.2.2 _ _ tq17 ((0 : Int32).toNatClampNeg) rfl).1
                    have r6350 := ci_rg c0 tq17 ((0 : Int32).toNatClampNeg) (lo := (-1)) (hi := 3) rfl
                    have r6351 := ci_rg cq2 tq17 ((0 : Int32).toNatClampNeg) (lo := (-1)) (hi := 3) rfl
                    have r6352 := ci_rg cs11 tq17 ((0 : Int32).toNatClampNeg) (lo := (-1)) (hi := 3) rfl
                    refine sw_ite (fun h6353 => ?_) (fun h6353 => ?_)
                    · have w6354 : mm_I s11 p0 0 = mm_I q2.2 p0 0 := by rw [← es11]; exact rd_k t_p0 tq5 (by decide)
                      have w6357 : rdA s11 p0 9 1 = mm_I s11 q17 ((1 : Int32)).toNatClampNeg := rdA_eq eq17
                      have w6356 : rdA s11 p0 9 1 = rdA q2.2 p0 9 1 := by rw [← es11]; exact rdA_k cq2 t_p0 (κ' := 59) rfl tq5 (by decide)
                      have w6358 := rdA_fr (k := 9) (j := 1) gq2 c0 t_p0 (κ' := 59) rfl rfl rfl
                      have w6360 : rdA s11 p0 10 1 = rdA q2.2 p0 10 1 := by rw [← es11]; exact rdA_j (by decide)
                      have w6362 : rdA q2.2 p0 10 1 = mm_I q2.2 q5 ((1 : Int32)).toNatClampNeg := rdA_eq eq5
                      have w6361 := rdA_fr (k := 10) (j := 1) gq2 c0 t_p0 (κ' := 60) rfl rfl rfl
                      have w6364 : rdA s11 p0 10 0 = -1 := by rw [← es11]; exact rdA_self eq5
                      have w6366 : rdA s11 p0 9 0 = mm_I s11 q17 ((0 : Int32)).toNatClampNeg := rdA_eq eq17
                      have w6365 : rdA s11 p0 9 0 = rdA q2.2 p0 9 0 := by rw [← es11]; exact rdA_k cq2 t_p0 (κ' := 59) rfl tq5 (by decide)
                      have w6367 := rdA_fr (k := 9) (j := 0) gq2 c0 t_p0 (κ' := 59) rfl rfl rfl
                      have w6371 : rdA q2.2 p0 10 0 = mm_I q2.2 q5 ((0 : Int32)).toNatClampNeg := rdA_eq eq5
                      have w6370 := rdA_fr (k := 10) (j := 0) gq2 c0 t_p0 (κ' := 60) rfl rfl rfl
                      have a6372 := zi_and p2 8 (by decide)
                      exact sw_some ⟨cs11, fs11, (by (try simp only [zp, zo, zq] at u5318 xq2 h5319 xq12 h5332 xq14 a5352 u5353 h5354 h5355 h5356 h5357 a5612 h5613 h5858 h6103 w6348 w6349 r6350 r6351 r6352 h6353 w6354 w6357 w6356 w6358 w6360 w6362 w6361 w6364 w6366 w6365 w6367 w6371 w6370 a6372 ⊢) <;> (try simp only [zz, Int32.reduceToInt, ne_eq] at u5318 xq2 h5319 xq12 h5332 xq14 a5352 u5353 h5354 h5355 h5356 h5357 a5612 h5613 h5858 h6103 w6348 w6349 r6350 r6351 r6352 h6353 w6354 w6357 w6356 w6358 w6360 w6362 w6361 w6364 w6366 w6365 w6367 w6371 w6370 a6372 ⊢) <;> (try simp (disch := omega) only [zb] at u5318 xq2 h5319 xq12 h5332 xq14 a5352 u5353 h5354 h5355 h5356 h5357 a5612 h5613 h5858 h6103 w6348 w6349 r6350 r6351 r6352 h6353 w6354 w6357 w6356 w6358 w6360 w6362 w6361 w6364 w6366 w6365 w6367 w6371 w6370 a6372 ⊢) <;> first | omega | ((try simp (disch := omega) only [zb] at u5318 xq2 h5319 xq12 h5332 xq14 a5352 u5353 h5354 h5355 h5356 h5357 a5612 h5613 h5858 h6103 w6348 w6349 r6350 r6351 r6352 h6353 w6354 w6357 w6356 w6358 w6360 w6362 w6361 w6364 w6366 w6365 w6367 w6371 w6370 a6372 ⊢) <;> omega))⟩
                    · refine sw_ite (fun h6373 => ?_) (fun h6373 => ?_)
                      · refine sw_ite (fun h6374 => ?_) (fun h6374 => ?_)
                        · have w6375 : mm_I s11 p0 0 = mm_I q2.2 p0 0 := by rw [← es11]; exact rd_k t_p0 tq5 (by decide)
                          have w6378 : rdA s11 p0 9 1 = mm_I s11 q17 ((1 : Int32)).toNatClampNeg := rdA_eq eq17
                          have w6377 : rdA s11 p0 9 1 = rdA q2.2 p0 9 1 := by rw [← es11]; exact rdA_k cq2 t_p0 (κ' := 59) rfl tq5 (by decide)
                          have w6379 := rdA_fr (k := 9) (j := 1) gq2 c0 t_p0 (κ' := 59) rfl rfl rfl
                          have w6381 : rdA s11 p0 10 1 = rdA q2.2 p0 10 1 := by rw [← es11]; exact rdA_j (by decide)
                          have w6383 : rdA q2.2 p0 10 1 = mm_I q2.2 q5 ((1 : Int32)).toNatClampNeg := rdA_eq eq5
                          have w6382 := rdA_fr (k := 10) (j := 1) gq2 c0 t_p0 (κ' := 60) rfl rfl rfl
                          have w6385 : rdA s11 p0 10 0 = -1 := by rw [← es11]; exact rdA_self eq5
                          have w6387 : rdA s11 p0 9 0 = mm_I s11 q17 ((0 : Int32)).toNatClampNeg := rdA_eq eq17
                          have w6386 : rdA s11 p0 9 0 = rdA q2.2 p0 9 0 := by rw [← es11]; exact rdA_k cq2 t_p0 (κ' := 59) rfl tq5 (by decide)
                          have w6388 := rdA_fr (k := 9) (j := 0) gq2 c0 t_p0 (κ' := 59) rfl rfl rfl
                          have w6392 : rdA q2.2 p0 10 0 = mm_I q2.2 q5 ((0 : Int32)).toNatClampNeg := rdA_eq eq5
                          have w6391 := rdA_fr (k := 10) (j := 0) gq2 c0 t_p0 (κ' := 60) rfl rfl rfl
                          have a6393 := zi_and p2 8 (by decide)
                          exact sw_some ⟨cs11, fs11, (by (try simp only [zp, zo, zq] at u5318 xq2 h5319 xq12 h5332 xq14 a5352 u5353 h5354 h5355 h5356 h5357 a5612 h5613 h5858 h6103 w6348 w6349 r6350 r6351 r6352 h6353 h6373 h6374 w6375 w6378 w6377 w6379 w6381 w6383 w6382 w6385 w6387 w6386 w6388 w6392 w6391 a6393 ⊢) <;> (try simp only [zz, Int32.reduceToInt, ne_eq] at u5318 xq2 h5319 xq12 h5332 xq14 a5352 u5353 h5354 h5355 h5356 h5357 a5612 h5613 h5858 h6103 w6348 w6349 r6350 r6351 r6352 h6353 h6373 h6374 w6375 w6378 w6377 w6379 w6381 w6383 w6382 w6385 w6387 w6386 w6388 w6392 w6391 a6393 ⊢) <;> (try simp (disch := omega) only [zb] at u5318 xq2 h5319 xq12 h5332 xq14 a5352 u5353 h5354 h5355 h5356 h5357 a5612 h5613 h5858 h6103 w6348 w6349 r6350 r6351 r6352 h6353 h6373 h6374 w6375 w6378 w6377 w6379 w6381 w6383 w6382 w6385 w6387 w6386 w6388 w6392 w6391 a6393 ⊢) <;> first | omega | ((try simp (disch := omega) only [zb] at u5318 xq2 h5319 xq12 h5332 xq14 a5352 u5353 h5354 h5355 h5356 h5357 a5612 h5613 h5858 h6103 w6348 w6349 r6350 r6351 r6352 h6353 h6373 h6374 w6375 w6378 w6377 w6379 w6381 w6383 w6382 w6385 w6387 w6386 w6388 w6392 w6391 a6393 ⊢) <;> omega))⟩
                        · unfold fX9_pair_250
                          refine sw_ite (fun h6394 => ?_) (fun h6394 => ?_)
                          · unfold fX9_pair_264
                            refine sw_ite (fun h6395 => ?_) (fun h6395 => ?_)
                            · have w6396 : mm_I s11 p0 0 = mm_I q2.2 p0 0 := by rw [← es11]; exact rd_k t_p0 tq5 (by decide)
                              have w6399 : rdA s11 p0 9 1 = mm_I s11 q17 ((1 : Int32)).toNatClampNeg := rdA_eq eq17
                              have w6398 : rdA s11 p0 9 1 = rdA q2.2 p0 9 1 := by rw [← es11]; exact rdA_k cq2 t_p0 (κ' := 59) rfl tq5 (by decide)
                              have w6400 := rdA_fr (k := 9) (j := 1) gq2 c0 t_p0 (κ' := 59) rfl rfl rfl
                              have w6402 : rdA s11 p0 10 1 = rdA q2.2 p0 10 1 := by rw [← es11]; exact rdA_j (by decide)
                              have w6404 : rdA q2.2 p0 10 1 = mm_I q2.2 q5 ((1 : Int32)).toNatClampNeg := rdA_eq eq5
                              have w6403 := rdA_fr (k := 10) (j := 1) gq2 c0 t_p0 (κ' := 60) rfl rfl rfl
                              have w6406 : rdA s11 p0 10 0 = -1 := by rw [← es11]; exact rdA_self eq5
                              have w6408 : rdA s11 p0 9 0 = mm_I s11 q17 ((0 : Int32)).toNatClampNeg := rdA_eq eq17
                              have w6407 : rdA s11 p0 9 0 = rdA q2.2 p0 9 0 := by rw [← es11]; exact rdA_k cq2 t_p0 (κ' := 59) rfl tq5 (by decide)
                              have w6409 := rdA_fr (k := 9) (j := 0) gq2 c0 t_p0 (κ' := 59) rfl rfl rfl
                              have w6413 : rdA q2.2 p0 10 0 = mm_I q2.2 q5 ((0 : Int32)).toNatClampNeg := rdA_eq eq5
                              have w6412 := rdA_fr (k := 10) (j := 0) gq2 c0 t_p0 (κ' := 60) rfl rfl rfl
                              have a6414 := zi_and p2 8 (by decide)
                              exact sw_some ⟨cs11, fs11, (by (try simp only [zp, zo, zq] at u5318 xq2 h5319 xq12 h5332 xq14 a5352 u5353 h5354 h5355 h5356 h5357 a5612 h5613 h5858 h6103 w6348 w6349 r6350 r6351 r6352 h6353 h6373 h6374 h6394 h6395 w6396 w6399 w6398 w6400 w6402 w6404 w6403 w6406 w6408 w6407 w6409 w6413 w6412 a6414 ⊢) <;> (try simp only [zz, Int32.reduceToInt, ne_eq] at u5318 xq2 h5319 xq12 h5332 xq14 a5352 u5353 h5354 h5355 h5356 h5357 a5612 h5613 h5858 h6103 w6348 w6349 r6350 r6351 r6352 h6353 h6373 h6374 h6394 h6395 w6396 w6399 w6398 w6400 w6402 w6404 w6403 w6406 w6408 w6407 w6409 w6413 w6412 a6414 ⊢) <;> (try simp (disch := omega) only [zb] at u5318 xq2 h5319 xq12 h5332 xq14 a5352 u5353 h5354 h5355 h5356 h5357 a5612 h5613 h5858 h6103 w6348 w6349 r6350 r6351 r6352 h6353 h6373 h6374 h6394 h6395 w6396 w6399 w6398 w6400 w6402 w6404 w6403 w6406 w6408 w6407 w6409 w6413 w6412 a6414 ⊢) <;> first | omega | ((try simp (disch := omega) only [zb] at u5318 xq2 h5319 xq12 h5332 xq14 a5352 u5353 h5354 h5355 h5356 h5357 a5612 h5613 h5858 h6103 w6348 w6349 r6350 r6351 r6352 h6353 h6373 h6374 h6394 h6395 w6396 w6399 w6398 w6400 w6402 w6404 w6403 w6406 w6408 w6407 w6409 w6413 w6412 a6414 ⊢) <;> omega))⟩
                            · refine sw_sh (ci_sh cs11 t_p0 rfl) ?_
                              refine sw_on (sX9_put cs11 t_p0 (by (try simp only [zp, zo, zq] at u5318 xq2 h5319 xq12 h5332 xq14 a5352 u5353 h5354 h5355 h5356 h5357 a5612 h5613 h5858 h6103 w6348 w6349 r6350 r6351 r6352 h6353 h6373 h6374 h6394 h6395 ⊢) <;> (try simp only [zz, Int32.reduceToInt, ne_eq] at u5318 xq2 h5319 xq12 h5332 xq14 a5352 u5353 h5354 h5355 h5356 h5357 a5612 h5613 h5858 h6103 w6348 w6349 r6350 r6351 r6352 h6353 h6373 h6374 h6394 h6395 ⊢) <;> (try simp (disch := omega) only [zb] at u5318 xq2 h5319 xq12 h5332 xq14 a5352 u5353 h5354 h5355 h5356 h5357 a5612 h5613 h5858 h6103 w6348 w6349 r6350 r6351 r6352 h6353 h6373 h6374 h6394 h6395 ⊢) <;> first | omega | ((try simp (disch := omega) only [zb] at u5318 xq2 h5319 xq12 h5332 xq14 a5352 u5353 h5354 h5355 h5356 h5357 a5612 h5613 h5858 h6103 w6348 w6349 r6350 r6351 r6352 h6353 h6373 h6374 h6394 h6395 ⊢) <;> omega)) ) ?_
                              intro q28 hqq28
                              obtain ⟨cq28, gq28, xq28⟩ := hqq28
                              have fq28 := fr_trans fs11 gq28 rfl
                              have w6415 := (gq28.2.2 _ _ t_p0 0 rfl).1
                              have w6416 : mm_I s11 p0 0 = mm_I q2.2 p0 0 := by rw [← es11]; exact rd_k t_p0 tq5 (by decide)
                              have w6418 := rdA_fr (k := 9) (j := 1) gq28 cs11 t_p0 (κ' := 59) rfl rfl rfl
                              have w6420 : rdA s11 p0 9 1 = mm_I s11 q17 ((1 : Int32)).toNatClampNeg := rdA_eq eq17
                              have w6419 : rdA s11 p0 9 1 = rdA q2.2 p0 9 1 := by rw [← es11]; exact rdA_k cq2 t_p0 (κ' := 59) rfl tq5 (by decide)
                              have w6421 := rdA_fr (k := 9) (j := 1) gq2 c0 t_p0 (κ' := 59) rfl rfl rfl
                              have w6423 := rdA_fr (k := 10) (j := 1) gq28 cs11 t_p0 (κ' := 60) rfl rfl rfl
                              have w6424 : rdA s11 p0 10 1 = rdA q2.2 p0 10 1 := by rw [← es11]; exact rdA_j (by decide)
                              have w6426 : rdA q2.2 p0 10 1 = mm_I q2.2 q5 ((1 : Int32)).toNatClampNeg := rdA_eq eq5
                              have w6425 := rdA_fr (k := 10) (j := 1) gq2 c0 t_p0 (κ' := 60) rfl rfl rfl
                              have w6428 := rdA_fr (k := 10) (j := 0) gq28 cs11 t_p0 (κ' := 60) rfl rfl rfl
                              have w6429 : rdA s11 p0 10 0 = -1 := by rw [← es11]; exact rdA_self eq5
                              have w6430 := rdA_fr (k := 9) (j := 0) gq28 cs11 t_p0 (κ' := 59) rfl rfl rfl
                              have w6432 : rdA s11 p0 9 0 = mm_I s11 q17 ((0 : Int32)).toNatClampNeg := rdA_eq eq17
                              have w6431 : rdA s11 p0 9 0 = rdA q2.2 p0 9 0 := by rw [← es11]; exact rdA_k cq2 t_p0 (κ' := 59) rfl tq5 (by decide)
                              have w6433 := rdA_fr (k := 9) (j := 0) gq2 c0 t_p0 (κ' := 59) rfl rfl rfl
                              have w6437 : rdA q2.2 p0 10 0 = mm_I q2.2 q5 ((0 : Int32)).toNatClampNeg := rdA_eq eq5
                              have w6436 := rdA_fr (k := 10) (j := 0) gq2 c0 t_p0 (κ' := 60) rfl rfl rfl
                              have a6438 := zi_and p2 8 (by decide)
                              exact sw_some ⟨cq28, fq28, (by (try simp only [zp, zo, zq] at u5318 xq2 h5319 xq12 h5332 xq14 a5352 u5353 h5354 h5355 h5356 h5357 a5612 h5613 h5858 h6103 w6348 w6349 r6350 r6351 r6352 h6353 h6373 h6374 h6394 h6395 w6415 w6416 w6418 w6420 w6419 w6421 w6423 w6424 w6426 w6425 w6428 w6429 w6430 w6432 w6431 w6433 w6437 w6436 a6438 ⊢) <;> (try simp only [zz, Int32.reduceToInt, ne_eq] at u5318 xq2 h5319 xq12 h5332 xq14 a5352 u5353 h5354 h5355 h5356 h5357 a5612 h5613 h5858 h6103 w6348 w6349 r6350 r6351 r6352 h6353 h6373 h6374 h6394 h6395 w6415 w6416 w6418 w6420 w6419 w6421 w6423 w6424 w6426 w6425 w6428 w6429 w6430 w6432 w6431 w6433 w6437 w6436 a6438 ⊢) <;> (try simp (disch := omega) only [zb] at u5318 xq2 h5319 xq12 h5332 xq14 a5352 u5353 h5354 h5355 h5356 h5357 a5612 h5613 h5858 h6103 w6348 w6349 r6350 r6351 r6352 h6353 h6373 h6374 h6394 h6395 w6415 w6416 w6418 w6420 w6419 w6421 w6423 w6424 w6426 w6425 w6428 w6429 w6430 w6432 w6431 w6433 w6437 w6436 a6438 ⊢) <;> first | omega | ((try simp (disch := omega) only [zb] at u5318 xq2 h5319 xq12 h5332 xq14 a5352 u5353 h5354 h5355 h5356 h5357 a5612 h5613 h5858 h6103 w6348 w6349 r6350 r6351 r6352 h6353 h6373 h6374 h6394 h6395 w6415 w6416 w6418 w6420 w6419 w6421 w6423 w6424 w6426 w6425 w6428 w6429 w6430 w6432 w6431 w6433 w6437 w6436 a6438 ⊢) <;> omega))⟩
                          · refine sw_sh (ci_sh cs11 t_p0 rfl) ?_
                            refine sw_on (sX9_put cs11 t_p0 (by (try simp only [zp, zo, zq] at u5318 xq2 h5319 xq12 h5332 xq14 a5352 u5353 h5354 h5355 h5356 h5357 a5612 h5613 h5858 h6103 w6348 w6349 r6350 r6351 r6352 h6353 h6373 h6374 h6394 ⊢) <;> (try simp only [zz, Int32.reduceToInt, ne_eq] at u5318 xq2 h5319 xq12 h5332 xq14 a5352 u5353 h5354 h5355 h5356 h5357 a5612 h5613 h5858 h6103 w6348 w6349 r6350 r6351 r6352 h6353 h6373 h6374 h6394 ⊢) <;> (try simp (disch := omega) only [zb] at u5318 xq2 h5319 xq12 h5332 xq14 a5352 u5353 h5354 h5355 h5356 h5357 a5612 h5613 h5858 h6103 w6348 w6349 r6350 r6351 r6352 h6353 h6373 h6374 h6394 ⊢) <;> first | omega | ((try simp (disch := omega) only [zb] at u5318 xq2 h5319 xq12 h5332 xq14 a5352 u5353 h5354 h5355 h5356 h5357 a5612 h5613 h5858 h6103 w6348 w6349 r6350 r6351 r6352 h6353 h6373 h6374 h6394 ⊢) <;> omega)) ) ?_
                            intro q30 hqq30
                            obtain ⟨cq30, gq30, xq30⟩ := hqq30
                            have fq30 := fr_trans fs11 gq30 rfl
                            unfold fX9_pair_264
                            refine sw_ite (fun h6439 => ?_) (fun h6439 => ?_)
                            · have w6440 := (gq30.2.2 _ _ t_p0 0 rfl).1
                              have w6441 : mm_I s11 p0 0 = mm_I q2.2 p0 0 := by rw [← es11]; exact rd_k t_p0 tq5 (by decide)
                              have w6443 := rdA_fr (k := 9) (j := 1) gq30 cs11 t_p0 (κ' := 59) rfl rfl rfl
                              have w6445 : rdA s11 p0 9 1 = mm_I s11 q17 ((1 : Int32)).toNatClampNeg := rdA_eq eq17
                              have w6444 : rdA s11 p0 9 1 = rdA q2.2 p0 9 1 := by rw [← es11]; exact rdA_k cq2 t_p0 (κ' := 59) rfl tq5 (by decide)
                              have w6446 := rdA_fr (k := 9) (j := 1) gq2 c0 t_p0 (κ' := 59) rfl rfl rfl
                              have w6448 := rdA_fr (k := 10) (j := 1) gq30 cs11 t_p0 (κ' := 60) rfl rfl rfl
                              have w6449 : rdA s11 p0 10 1 = rdA q2.2 p0 10 1 := by rw [← es11]; exact rdA_j (by decide)
                              have w6451 : rdA q2.2 p0 10 1 = mm_I q2.2 q5 ((1 : Int32)).toNatClampNeg := rdA_eq eq5
                              have w6450 := rdA_fr (k := 10) (j := 1) gq2 c0 t_p0 (κ' := 60) rfl rfl rfl
                              have w6453 := rdA_fr (k := 10) (j := 0) gq30 cs11 t_p0 (κ' := 60) rfl rfl rfl
                              have w6454 : rdA s11 p0 10 0 = -1 := by rw [← es11]; exact rdA_self eq5
                              have w6455 := rdA_fr (k := 9) (j := 0) gq30 cs11 t_p0 (κ' := 59) rfl rfl rfl
                              have w6457 : rdA s11 p0 9 0 = mm_I s11 q17 ((0 : Int32)).toNatClampNeg := rdA_eq eq17
                              have w6456 : rdA s11 p0 9 0 = rdA q2.2 p0 9 0 := by rw [← es11]; exact rdA_k cq2 t_p0 (κ' := 59) rfl tq5 (by decide)
                              have w6458 := rdA_fr (k := 9) (j := 0) gq2 c0 t_p0 (κ' := 59) rfl rfl rfl
                              have w6462 : rdA q2.2 p0 10 0 = mm_I q2.2 q5 ((0 : Int32)).toNatClampNeg := rdA_eq eq5
                              have w6461 := rdA_fr (k := 10) (j := 0) gq2 c0 t_p0 (κ' := 60) rfl rfl rfl
                              have a6463 := zi_and p2 8 (by decide)
                              exact sw_some ⟨cq30, fq30, (by (try simp only [zp, zo, zq] at u5318 xq2 h5319 xq12 h5332 xq14 a5352 u5353 h5354 h5355 h5356 h5357 a5612 h5613 h5858 h6103 w6348 w6349 r6350 r6351 r6352 h6353 h6373 h6374 h6394 h6439 w6440 w6441 w6443 w6445 w6444 w6446 w6448 w6449 w6451 w6450 w6453 w6454 w6455 w6457 w6456 w6458 w6462 w6461 a6463 ⊢) <;> (try simp only [zz, Int32.reduceToInt, ne_eq] at u5318 xq2 h5319 xq12 h5332 xq14 a5352 u5353 h5354 h5355 h5356 h5357 a5612 h5613 h5858 h6103 w6348 w6349 r6350 r6351 r6352 h6353 h6373 h6374 h6394 h6439 w6440 w6441 w6443 w6445 w6444 w6446 w6448 w6449 w6451 w6450 w6453 w6454 w6455 w6457 w6456 w6458 w6462 w6461 a6463 ⊢) <;> (try simp (disch := omega) only [zb] at u5318 xq2 h5319 xq12 h5332 xq14 a5352 u5353 h5354 h5355 h5356 h5357 a5612 h5613 h5858 h6103 w6348 w6349 r6350 r6351 r6352 h6353 h6373 h6374 h6394 h6439 w6440 w6441 w6443 w6445 w6444 w6446 w6448 w6449 w6451 w6450 w6453 w6454 w6455 w6457 w6456 w6458 w6462 w6461 a6463 ⊢) <;> first | omega | ((try simp (disch := omega) only [zb] at u5318 xq2 h5319 xq12 h5332 xq14 a5352 u5353 h5354 h5355 h5356 h5357 a5612 h5613 h5858 h6103 w6348 w6349 r6350 r6351 r6352 h6353 h6373 h6374 h6394 h6439 w6440 w6441 w6443 w6445 w6444 w6446 w6448 w6449 w6451 w6450 w6453 w6454 w6455 w6457 w6456 w6458 w6462 w6461 a6463 ⊢) <;> omega))⟩
                            · refine sw_sh (ci_sh cq30 t_p0 rfl) ?_
                              refine sw_on (sX9_put cq30 t_p0 (by (try simp only [zp, zo, zq] at u5318 xq2 h5319 xq12 h5332 xq14 a5352 u5353 h5354 h5355 h5356 h5357 a5612 h5613 h5858 h6103 w6348 w6349 r6350 r6351 r6352 h6353 h6373 h6374 h6394 h6439 ⊢) <;> (try simp only [zz, Int32.reduceToInt, ne_eq] at u5318 xq2 h5319 xq12 h5332 xq14 a5352 u5353 h5354 h5355 h5356 h5357 a5612 h5613 h5858 h6103 w6348 w6349 r6350 r6351 r6352 h6353 h6373 h6374 h6394 h6439 ⊢) <;> (try simp (disch := omega) only [zb] at u5318 xq2 h5319 xq12 h5332 xq14 a5352 u5353 h5354 h5355 h5356 h5357 a5612 h5613 h5858 h6103 w6348 w6349 r6350 r6351 r6352 h6353 h6373 h6374 h6394 h6439 ⊢) <;> first | omega | ((try simp (disch := omega) only [zb] at u5318 xq2 h5319 xq12 h5332 xq14 a5352 u5353 h5354 h5355 h5356 h5357 a5612 h5613 h5858 h6103 w6348 w6349 r6350 r6351 r6352 h6353 h6373 h6374 h6394 h6439 ⊢) <;> omega)) ) ?_
                              intro q28 hqq28
                              obtain ⟨cq28, gq28, xq28⟩ := hqq28
                              have fq28 := fr_trans fq30 gq28 rfl
                              have w6464 := (gq28.2.2 _ _ t_p0 0 rfl).1
                              have w6465 := (gq30.2.2 _ _ t_p0 0 rfl).1
                              have w6466 : mm_I s11 p0 0 = mm_I q2.2 p0 0 := by rw [← es11]; exact rd_k t_p0 tq5 (by decide)
                              have w6468 := rdA_fr (k := 9) (j := 1) gq28 cq30 t_p0 (κ' := 59) rfl rfl rfl
                              have w6469 := rdA_fr (k := 9) (j := 1) gq30 cs11 t_p0 (κ' := 59) rfl rfl rfl
                              have w6471 : rdA s11 p0 9 1 = mm_I s11 q17 ((1 : Int32)).toNatClampNeg := rdA_eq eq17
                              have w6470 : rdA s11 p0 9 1 = rdA q2.2 p0 9 1 := by rw [← es11]; exact rdA_k cq2 t_p0 (κ' := 59) rfl tq5 (by decide)
                              have w6472 := rdA_fr (k := 9) (j := 1) gq2 c0 t_p0 (κ' := 59) rfl rfl rfl
                              have w6474 := rdA_fr (k := 10) (j := 1) gq28 cq30 t_p0 (κ' := 60) rfl rfl rfl
                              have w6475 := rdA_fr (k := 10) (j := 1) gq30 cs11 t_p0 (κ' := 60) rfl rfl rfl
                              have w6476 : rdA s11 p0 10 1 = rdA q2.2 p0 10 1 := by rw [← es11]; exact rdA_j (by decide)
                              have w6478 : rdA q2.2 p0 10 1 = mm_I q2.2 q5 ((1 : Int32)).toNatClampNeg := rdA_eq eq5
                              have w6477 := rdA_fr (k := 10) (j := 1) gq2 c0 t_p0 (κ' := 60) rfl rfl rfl
                              have w6480 := rdA_fr (k := 10) (j := 0) gq28 cq30 t_p0 (κ' := 60) rfl rfl rfl
                              have w6481 := rdA_fr (k := 10) (j := 0) gq30 cs11 t_p0 (κ' := 60) rfl rfl rfl
                              have w6482 : rdA s11 p0 10 0 = -1 := by rw [← es11]; exact rdA_self eq5
                              have w6483 := rdA_fr (k := 9) (j := 0) gq28 cq30 t_p0 (κ' := 59) rfl rfl rfl
                              have w6484 := rdA_fr (k := 9) (j := 0) gq30 cs11 t_p0 (κ' := 59) rfl rfl rfl
                              have w6486 : rdA s11 p0 9 0 = mm_I s11 q17 ((0 : Int32)).toNatClampNeg := rdA_eq eq17
                              have w6485 : rdA s11 p0 9 0 = rdA q2.2 p0 9 0 := by rw [← es11]; exact rdA_k cq2 t_p0 (κ' := 59) rfl tq5 (by decide)
                              have w6487 := rdA_fr (k := 9) (j := 0) gq2 c0 t_p0 (κ' := 59) rfl rfl rfl
                              have w6491 : rdA q2.2 p0 10 0 = mm_I q2.2 q5 ((0 : Int32)).toNatClampNeg := rdA_eq eq5
                              have w6490 := rdA_fr (k := 10) (j := 0) gq2 c0 t_p0 (κ' := 60) rfl rfl rfl
                              have a6492 := zi_and p2 8 (by decide)
                              exact sw_some ⟨cq28, fq28, (by (try simp only [zp, zo, zq] at u5318 xq2 h5319 xq12 h5332 xq14 a5352 u5353 h5354 h5355 h5356 h5357 a5612 h5613 h5858 h6103 w6348 w6349 r6350 r6351 r6352 h6353 h6373 h6374 h6394 h6439 w6464 w6465 w6466 w6468 w6469 w6471 w6470 w6472 w6474 w6475 w6476 w6478 w6477 w6480 w6481 w6482 w6483 w6484 w6486 w6485 w6487 w6491 w6490 a6492 ⊢) <;> (try simp only [zz, Int32.reduceToInt, ne_eq] at u5318 xq2 h5319 xq12 h5332 xq14 a5352 u5353 h5354 h5355 h5356 h5357 a5612 h5613 h5858 h6103 w6348 w6349 r6350 r6351 r6352 h6353 h6373 h6374 h6394 h6439 w6464 w6465 w6466 w6468 w6469 w6471 w6470 w6472 w6474 w6475 w6476 w6478 w6477 w6480 w6481 w6482 w6483 w6484 w6486 w6485 w6487 w6491 w6490 a6492 ⊢) <;> (try simp (disch := omega) only [zb] at u5318 xq2 h5319 xq12 h5332 xq14 a5352 u5353 h5354 h5355 h5356 h5357 a5612 h5613 h5858 h6103 w6348 w6349 r6350 r6351 r6352 h6353 h6373 h6374 h6394 h6439 w6464 w6465 w6466 w6468 w6469 w6471 w6470 w6472 w6474 w6475 w6476 w6478 w6477 w6480 w6481 w6482 w6483 w6484 w6486 w6485 w6487 w6491 w6490 a6492 ⊢) <;> first | omega | ((try simp (disch := omega) only [zb] at u5318 xq2 h5319 xq12 h5332 xq14 a5352 u5353 h5354 h5355 h5356 h5357 a5612 h5613 h5858 h6103 w6348 w6349 r6350 r6351 r6352 h6353 h6373 h6374 h6394 h6439 w6464 w6465 w6466 w6468 w6469 w6471 w6470 w6472 w6474 w6475 w6476 w6478 w6477 w6480 w6481 w6482 w6483 w6484 w6486 w6485 w6487 w6491 w6490 a6492 ⊢) <;> omega))⟩
                      · unfold fX9_pair_250
                        refine sw_ite (fun h6493 => ?_) (fun h6493 => ?_)
                        · unfold fX9_pair_264
                          refine sw_ite (fun h6494 => ?_) (fun h6494 => ?_)
                          · have w6495 : mm_I s11 p0 0 = mm_I q2.2 p0 0 := by rw [← es11]; exact rd_k t_p0 tq5 (by decide)
                            have w6498 : rdA s11 p0 9 1 = mm_I s11 q17 ((1 : Int32)).toNatClampNeg := rdA_eq eq17
                            have w6497 : rdA s11 p0 9 1 = rdA q2.2 p0 9 1 := by rw [← es11]; exact rdA_k cq2 t_p0 (κ' := 59) rfl tq5 (by decide)
                            have w6499 := rdA_fr (k := 9) (j := 1) gq2 c0 t_p0 (κ' := 59) rfl rfl rfl
                            have w6501 : rdA s11 p0 10 1 = rdA q2.2 p0 10 1 := by rw [← es11]; exact rdA_j (by decide)
                            have w6503 : rdA q2.2 p0 10 1 = mm_I q2.2 q5 ((1 : Int32)).toNatClampNeg := rdA_eq eq5
                            have w6502 := rdA_fr (k := 10) (j := 1) gq2 c0 t_p0 (κ' := 60) rfl rfl rfl
                            have w6505 : rdA s11 p0 10 0 = -1 := by rw [← es11]; exact rdA_self eq5
                            have w6507 : rdA s11 p0 9 0 = mm_I s11 q17 ((0 : Int32)).toNatClampNeg := rdA_eq eq17
                            have w6506 : rdA s11 p0 9 0 = rdA q2.2 p0 9 0 := by rw [← es11]; exact rdA_k cq2 t_p0 (κ' := 59) rfl tq5 (by decide)
                            have w6508 := rdA_fr (k := 9) (j := 0) gq2 c0 t_p0 (κ' := 59) rfl rfl rfl
                            have w6512 : rdA q2.2 p0 10 0 = mm_I q2.2 q5 ((0 : Int32)).toNatClampNeg := rdA_eq eq5
                            have w6511 := rdA_fr (k := 10) (j := 0) gq2 c0 t_p0 (κ' := 60) rfl rfl rfl
                            have a6513 := zi_and p2 8 (by decide)
                            exact sw_some ⟨cs11, fs11, (by (try simp only [zp, zo, zq] at u5318 xq2 h5319 xq12 h5332 xq14 a5352 u5353 h5354 h5355 h5356 h5357 a5612 h5613 h5858 h6103 w6348 w6349 r6350 r6351 r6352 h6353 h6373 h6493 h6494 w6495 w6498 w6497 w6499 w6501 w6503 w6502 w6505 w6507 w6506 w6508 w6512 w6511 a6513 ⊢) <;> (try simp only [zz, Int32.reduceToInt, ne_eq] at u5318 xq2 h5319 xq12 h5332 xq14 a5352 u5353 h5354 h5355 h5356 h5357 a5612 h5613 h5858 h6103 w6348 w6349 r6350 r6351 r6352 h6353 h6373 h6493 h6494 w6495 w6498 w6497 w6499 w6501 w6503 w6502 w6505 w6507 w6506 w6508 w6512 w6511 a6513 ⊢) <;> (try simp (disch := omega) only [zb] at u5318 xq2 h5319 xq12 h5332 xq14 a5352 u5353 h5354 h5355 h5356 h5357 a5612 h5613 h5858 h6103 w6348 w6349 r6350 r6351 r6352 h6353 h6373 h6493 h6494 w6495 w6498 w6497 w6499 w6501 w6503 w6502 w6505 w6507 w6506 w6508 w6512 w6511 a6513 ⊢) <;> first | omega | ((try simp (disch := omega) only [zb] at u5318 xq2 h5319 xq12 h5332 xq14 a5352 u5353 h5354 h5355 h5356 h5357 a5612 h5613 h5858 h6103 w6348 w6349 r6350 r6351 r6352 h6353 h6373 h6493 h6494 w6495 w6498 w6497 w6499 w6501 w6503 w6502 w6505 w6507 w6506 w6508 w6512 w6511 a6513 ⊢) <;> omega))⟩
                          · refine sw_sh (ci_sh cs11 t_p0 rfl) ?_
                            refine sw_on (sX9_put cs11 t_p0 (by (try simp only [zp, zo, zq] at u5318 xq2 h5319 xq12 h5332 xq14 a5352 u5353 h5354 h5355 h5356 h5357 a5612 h5613 h5858 h6103 w6348 w6349 r6350 r6351 r6352 h6353 h6373 h6493 h6494 ⊢) <;> (try simp only [zz, Int32.reduceToInt, ne_eq] at u5318 xq2 h5319 xq12 h5332 xq14 a5352 u5353 h5354 h5355 h5356 h5357 a5612 h5613 h5858 h6103 w6348 w6349 r6350 r6351 r6352 h6353 h6373 h6493 h6494 ⊢) <;> (try simp (disch := omega) only [zb] at u5318 xq2 h5319 xq12 h5332 xq14 a5352 u5353 h5354 h5355 h5356 h5357 a5612 h5613 h5858 h6103 w6348 w6349 r6350 r6351 r6352 h6353 h6373 h6493 h6494 ⊢) <;> first | omega | ((try simp (disch := omega) only [zb] at u5318 xq2 h5319 xq12 h5332 xq14 a5352 u5353 h5354 h5355 h5356 h5357 a5612 h5613 h5858 h6103 w6348 w6349 r6350 r6351 r6352 h6353 h6373 h6493 h6494 ⊢) <;> omega)) ) ?_
                            intro q28 hqq28
                            obtain ⟨cq28, gq28, xq28⟩ := hqq28
                            have fq28 := fr_trans fs11 gq28 rfl
                            have w6514 := (gq28.2.2 _ _ t_p0 0 rfl).1
                            have w6515 : mm_I s11 p0 0 = mm_I q2.2 p0 0 := by rw [← es11]; exact rd_k t_p0 tq5 (by decide)
                            have w6517 := rdA_fr (k := 9) (j := 1) gq28 cs11 t_p0 (κ' := 59) rfl rfl rfl
                            have w6519 : rdA s11 p0 9 1 = mm_I s11 q17 ((1 : Int32)).toNatClampNeg := rdA_eq eq17
                            have w6518 : rdA s11 p0 9 1 = rdA q2.2 p0 9 1 := by rw [← es11]; exact rdA_k cq2 t_p0 (κ' := 59) rfl tq5 (by decide)
                            have w6520 := rdA_fr (k := 9) (j := 1) gq2 c0 t_p0 (κ' := 59) rfl rfl rfl
                            have w6522 := rdA_fr (k := 10) (j := 1) gq28 cs11 t_p0 (κ' := 60) rfl rfl rfl
                            have w6523 : rdA s11 p0 10 1 = rdA q2.2 p0 10 1 := by rw [← es11]; exact rdA_j (by decide)
                            have w6525 : rdA q2.2 p0 10 1 = mm_I q2.2 q5 ((1 : Int32)).toNatClampNeg := rdA_eq eq5
                            have w6524 := rdA_fr (k := 10) (j := 1) gq2 c0 t_p0 (κ' := 60) rfl rfl rfl
                            have w6527 := rdA_fr (k := 10) (j := 0) gq28 cs11 t_p0 (κ' := 60) rfl rfl rfl
                            have w6528 : rdA s11 p0 10 0 = -1 := by rw [← es11]; exact rdA_self eq5
                            have w6529 := rdA_fr (k := 9) (j := 0) gq28 cs11 t_p0 (κ' := 59) rfl rfl rfl
                            have w6531 : rdA s11 p0 9 0 = mm_I s11 q17 ((0 : Int32)).toNatClampNeg := rdA_eq eq17
                            have w6530 : rdA s11 p0 9 0 = rdA q2.2 p0 9 0 := by rw [← es11]; exact rdA_k cq2 t_p0 (κ' := 59) rfl tq5 (by decide)
                            have w6532 := rdA_fr (k := 9) (j := 0) gq2 c0 t_p0 (κ' := 59) rfl rfl rfl
                            have w6536 : rdA q2.2 p0 10 0 = mm_I q2.2 q5 ((0 : Int32)).toNatClampNeg := rdA_eq eq5
                            have w6535 := rdA_fr (k := 10) (j := 0) gq2 c0 t_p0 (κ' := 60) rfl rfl rfl
                            have a6537 := zi_and p2 8 (by decide)
                            exact sw_some ⟨cq28, fq28, (by (try simp only [zp, zo, zq] at u5318 xq2 h5319 xq12 h5332 xq14 a5352 u5353 h5354 h5355 h5356 h5357 a5612 h5613 h5858 h6103 w6348 w6349 r6350 r6351 r6352 h6353 h6373 h6493 h6494 w6514 w6515 w6517 w6519 w6518 w6520 w6522 w6523 w6525 w6524 w6527 w6528 w6529 w6531 w6530 w6532 w6536 w6535 a6537 ⊢) <;> (try simp only [zz, Int32.reduceToInt, ne_eq] at u5318 xq2 h5319 xq12 h5332 xq14 a5352 u5353 h5354 h5355 h5356 h5357 a5612 h5613 h5858 h6103 w6348 w6349 r6350 r6351 r6352 h6353 h6373 h6493 h6494 w6514 w6515 w6517 w6519 w6518 w6520 w6522 w6523 w6525 w6524 w6527 w6528 w6529 w6531 w6530 w6532 w6536 w6535 a6537 ⊢) <;> (try simp (disch := omega) only [zb] at u5318 xq2 h5319 xq12 h5332 xq14 a5352 u5353 h5354 h5355 h5356 h5357 a5612 h5613 h5858 h6103 w6348 w6349 r6350 r6351 r6352 h6353 h6373 h6493 h6494 w6514 w6515 w6517 w6519 w6518 w6520 w6522 w6523 w6525 w6524 w6527 w6528 w6529 w6531 w6530 w6532 w6536 w6535 a6537 ⊢) <;> first | omega | ((try simp (disch := omega) only [zb] at u5318 xq2 h5319 xq12 h5332 xq14 a5352 u5353 h5354 h5355 h5356 h5357 a5612 h5613 h5858 h6103 w6348 w6349 r6350 r6351 r6352 h6353 h6373 h6493 h6494 w6514 w6515 w6517 w6519 w6518 w6520 w6522 w6523 w6525 w6524 w6527 w6528 w6529 w6531 w6530 w6532 w6536 w6535 a6537 ⊢) <;> omega))⟩
                        · refine sw_sh (ci_sh cs11 t_p0 rfl) ?_
                          refine sw_on (sX9_put cs11 t_p0 (by (try simp only [zp, zo, zq] at u5318 xq2 h5319 xq12 h5332 xq14 a5352 u5353 h5354 h5355 h5356 h5357 a5612 h5613 h5858 h6103 w6348 w6349 r6350 r6351 r6352 h6353 h6373 h6493 ⊢) <;> (try simp only [zz, Int32.reduceToInt, ne_eq] at u5318 xq2 h5319 xq12 h5332 xq14 a5352 u5353 h5354 h5355 h5356 h5357 a5612 h5613 h5858 h6103 w6348 w6349 r6350 r6351 r6352 h6353 h6373 h6493 ⊢) <;> (try simp (disch := omega) only [zb] at u5318 xq2 h5319 xq12 h5332 xq14 a5352 u5353 h5354 h5355 h5356 h5357 a5612 h5613 h5858 h6103 w6348 w6349 r6350 r6351 r6352 h6353 h6373 h6493 ⊢) <;> first | omega | ((try simp (disch := omega) only [zb] at u5318 xq2 h5319 xq12 h5332 xq14 a5352 u5353 h5354 h5355 h5356 h5357 a5612 h5613 h5858 h6103 w6348 w6349 r6350 r6351 r6352 h6353 h6373 h6493 ⊢) <;> omega)) ) ?_
                          intro q30 hqq30
                          obtain ⟨cq30, gq30, xq30⟩ := hqq30
                          have fq30 := fr_trans fs11 gq30 rfl
                          unfold fX9_pair_264
                          refine sw_ite (fun h6538 => ?_) (fun h6538 => ?_)
                          · have w6539 := (gq30.2.2 _ _ t_p0 0 rfl).1
                            have w6540 : mm_I s11 p0 0 = mm_I q2.2 p0 0 := by rw [← es11]; exact rd_k t_p0 tq5 (by decide)
                            have w6542 := rdA_fr (k := 9) (j := 1) gq30 cs11 t_p0 (κ' := 59) rfl rfl rfl
                            have w6544 : rdA s11 p0 9 1 = mm_I s11 q17 ((1 : Int32)).toNatClampNeg := rdA_eq eq17
                            have w6543 : rdA s11 p0 9 1 = rdA q2.2 p0 9 1 := by rw [← es11]; exact rdA_k cq2 t_p0 (κ' := 59) rfl tq5 (by decide)
                            have w6545 := rdA_fr (k := 9) (j := 1) gq2 c0 t_p0 (κ' := 59) rfl rfl rfl
                            have w6547 := rdA_fr (k := 10) (j := 1) gq30 cs11 t_p0 (κ' := 60) rfl rfl rfl
                            have w6548 : rdA s11 p0 10 1 = rdA q2.2 p0 10 1 := by rw [← es11]; exact rdA_j (by decide)
                            have w6550 : rdA q2.2 p0 10 1 = mm_I q2.2 q5 ((1 : Int32)).toNatClampNeg := rdA_eq eq5
                            have w6549 := rdA_fr (k := 10) (j := 1) gq2 c0 t_p0 (κ' := 60) rfl rfl rfl
                            have w6552 := rdA_fr (k := 10) (j := 0) gq30 cs11 t_p0 (κ' := 60) rfl rfl rfl
                            have w6553 : rdA s11 p0 10 0 = -1 := by rw [← es11]; exact rdA_self eq5
                            have w6554 := rdA_fr (k := 9) (j := 0) gq30 cs11 t_p0 (κ' := 59) rfl rfl rfl
                            have w6556 : rdA s11 p0 9 0 = mm_I s11 q17 ((0 : Int32)).toNatClampNeg := rdA_eq eq17
                            have w6555 : rdA s11 p0 9 0 = rdA q2.2 p0 9 0 := by rw [← es11]; exact rdA_k cq2 t_p0 (κ' := 59) rfl tq5 (by decide)
                            have w6557 := rdA_fr (k := 9) (j := 0) gq2 c0 t_p0 (κ' := 59) rfl rfl rfl
                            have w6561 : rdA q2.2 p0 10 0 = mm_I q2.2 q5 ((0 : Int32)).toNatClampNeg := rdA_eq eq5
                            have w6560 := rdA_fr (k := 10) (j := 0) gq2 c0 t_p0 (κ' := 60) rfl rfl rfl
                            have a6562 := zi_and p2 8 (by decide)
                            exact sw_some ⟨cq30, fq30, (by (try simp only [zp, zo, zq] at u5318 xq2 h5319 xq12 h5332 xq14 a5352 u5353 h5354 h5355 h5356 h5357 a5612 h5613 h5858 h6103 w6348 w6349 r6350 r6351 r6352 h6353 h6373 h6493 h6538 w6539 w6540 w6542 w6544 w6543 w6545 w6547 w6548 w6550 w6549 w6552 w6553 w6554 w6556 w6555 w6557 w6561 w6560 a6562 ⊢) <;> (try simp only [zz, Int32.reduceToInt, ne_eq] at u5318 xq2 h5319 xq12 h5332 xq14 a5352 u5353 h5354 h5355 h5356 h5357 a5612 h5613 h5858 h6103 w6348 w6349 r6350 r6351 r6352 h6353 h6373 h6493 h6538 w6539 w6540 w6542 w6544 w6543 w6545 w6547 w6548 w6550 w6549 w6552 w6553 w6554 w6556 w6555 w6557 w6561 w6560 a6562 ⊢) <;> (try simp (disch := omega) only [zb] at u5318 xq2 h5319 xq12 h5332 xq14 a5352 u5353 h5354 h5355 h5356 h5357 a5612 h5613 h5858 h6103 w6348 w6349 r6350 r6351 r6352 h6353 h6373 h6493 h6538 w6539 w6540 w6542 w6544 w6543 w6545 w6547 w6548 w6550 w6549 w6552 w6553 w6554 w6556 w6555 w6557 w6561 w6560 a6562 ⊢) <;> first | omega | ((try simp (disch := omega) only [zb] at u5318 xq2 h5319 xq12 h5332 xq14 a5352 u5353 h5354 h5355 h5356 h5357 a5612 h5613 h5858 h6103 w6348 w6349 r6350 r6351 r6352 h6353 h6373 h6493 h6538 w6539 w6540 w6542 w6544 w6543 w6545 w6547 w6548 w6550 w6549 w6552 w6553 w6554 w6556 w6555 w6557 w6561 w6560 a6562 ⊢) <;> omega))⟩
                          · refine sw_sh (ci_sh cq30 t_p0 rfl) ?_
                            refine sw_on (sX9_put cq30 t_p0 (by (try simp only [zp, zo, zq] at u5318 xq2 h5319 xq12 h5332 xq14 a5352 u5353 h5354 h5355 h5356 h5357 a5612 h5613 h5858 h6103 w6348 w6349 r6350 r6351 r6352 h6353 h6373 h6493 h6538 ⊢) <;> (try simp only [zz, Int32.reduceToInt, ne_eq] at u5318 xq2 h5319 xq12 h5332 xq14 a5352 u5353 h5354 h5355 h5356 h5357 a5612 h5613 h5858 h6103 w6348 w6349 r6350 r6351 r6352 h6353 h6373 h6493 h6538 ⊢) <;> (try simp (disch := omega) only [zb] at u5318 xq2 h5319 xq12 h5332 xq14 a5352 u5353 h5354 h5355 h5356 h5357 a5612 h5613 h5858 h6103 w6348 w6349 r6350 r6351 r6352 h6353 h6373 h6493 h6538 ⊢) <;> first | omega | ((try simp (disch := omega) only [zb] at u5318 xq2 h5319 xq12 h5332 xq14 a5352 u5353 h5354 h5355 h5356 h5357 a5612 h5613 h5858 h6103 w6348 w6349 r6350 r6351 r6352 h6353 h6373 h6493 h6538 ⊢) <;> omega)) ) ?_
                            intro q28 hqq28
                            obtain ⟨cq28, gq28, xq28⟩ := hqq28
                            have fq28 := fr_trans fq30 gq28 rfl
                            have w6563 := (gq28.2.2 _ _ t_p0 0 rfl).1
                            have w6564 := (gq30.2.2 _ _ t_p0 0 rfl).1
                            have w6565 : mm_I s11 p0 0 = mm_I q2.2 p0 0 := by rw [← es11]; exact rd_k t_p0 tq5 (by decide)
                            have w6567 := rdA_fr (k := 9) (j := 1) gq28 cq30 t_p0 (κ' := 59) rfl rfl rfl
                            have w6568 := rdA_fr (k := 9) (j := 1) gq30 cs11 t_p0 (κ' := 59) rfl rfl rfl
                            have w6570 : rdA s11 p0 9 1 = mm_I s11 q17 ((1 : Int32)).toNatClampNeg := rdA_eq eq17
                            have w6569 : rdA s11 p0 9 1 = rdA q2.2 p0 9 1 := by rw [← es11]; exact rdA_k cq2 t_p0 (κ' := 59) rfl tq5 (by decide)
                            have w6571 := rdA_fr (k := 9) (j := 1) gq2 c0 t_p0 (κ' := 59) rfl rfl rfl
                            have w6573 := rdA_fr (k := 10) (j := 1) gq28 cq30 t_p0 (κ' := 60) rfl rfl rfl
                            have w6574 := rdA_fr (k := 10) (j := 1) gq30 cs11 t_p0 (κ' := 60) rfl rfl rfl
                            have w6575 : rdA s11 p0 10 1 = rdA q2.2 p0 10 1 := by rw [← es11]; exact rdA_j (by decide)
                            have w6577 : rdA q2.2 p0 10 1 = mm_I q2.2 q5 ((1 : Int32)).toNatClampNeg := rdA_eq eq5
                            have w6576 := rdA_fr (k := 10) (j := 1) gq2 c0 t_p0 (κ' := 60) rfl rfl rfl
                            have w6579 := rdA_fr (k := 10) (j := 0) gq28 cq30 t_p0 (κ' := 60) rfl rfl rfl
                            have w6580 := rdA_fr (k := 10) (j := 0) gq30 cs11 t_p0 (κ' := 60) rfl rfl rfl
                            have w6581 : rdA s11 p0 10 0 = -1 := by rw [← es11]; exact rdA_self eq5
                            have w6582 := rdA_fr (k := 9) (j := 0) gq28 cq30 t_p0 (κ' := 59) rfl rfl rfl
                            have w6583 := rdA_fr (k := 9) (j := 0) gq30 cs11 t_p0 (κ' := 59) rfl rfl rfl
                            have w6585 : rdA s11 p0 9 0 = mm_I s11 q17 ((0 : Int32)).toNatClampNeg := rdA_eq eq17
                            have w6584 : rdA s11 p0 9 0 = rdA q2.2 p0 9 0 := by rw [← es11]; exact rdA_k cq2 t_p0 (κ' := 59) rfl tq5 (by decide)
                            have w6586 := rdA_fr (k := 9) (j := 0) gq2 c0 t_p0 (κ' := 59) rfl rfl rfl
                            have w6590 : rdA q2.2 p0 10 0 = mm_I q2.2 q5 ((0 : Int32)).toNatClampNeg := rdA_eq eq5
                            have w6589 := rdA_fr (k := 10) (j := 0) gq2 c0 t_p0 (κ' := 60) rfl rfl rfl
                            have a6591 := zi_and p2 8 (by decide)
                            exact sw_some ⟨cq28, fq28, (by (try simp only [zp, zo, zq] at u5318 xq2 h5319 xq12 h5332 xq14 a5352 u5353 h5354 h5355 h5356 h5357 a5612 h5613 h5858 h6103 w6348 w6349 r6350 r6351 r6352 h6353 h6373 h6493 h6538 w6563 w6564 w6565 w6567 w6568 w6570 w6569 w6571 w6573 w6574 w6575 w6577 w6576 w6579 w6580 w6581 w6582 w6583 w6585 w6584 w6586 w6590 w6589 a6591 ⊢) <;> (try simp only [zz, Int32.reduceToInt, ne_eq] at u5318 xq2 h5319 xq12 h5332 xq14 a5352 u5353 h5354 h5355 h5356 h5357 a5612 h5613 h5858 h6103 w6348 w6349 r6350 r6351 r6352 h6353 h6373 h6493 h6538 w6563 w6564 w6565 w6567 w6568 w6570 w6569 w6571 w6573 w6574 w6575 w6577 w6576 w6579 w6580 w6581 w6582 w6583 w6585 w6584 w6586 w6590 w6589 a6591 ⊢) <;> (try simp (disch := omega) only [zb] at u5318 xq2 h5319 xq12 h5332 xq14 a5352 u5353 h5354 h5355 h5356 h5357 a5612 h5613 h5858 h6103 w6348 w6349 r6350 r6351 r6352 h6353 h6373 h6493 h6538 w6563 w6564 w6565 w6567 w6568 w6570 w6569 w6571 w6573 w6574 w6575 w6577 w6576 w6579 w6580 w6581 w6582 w6583 w6585 w6584 w6586 w6590 w6589 a6591 ⊢) <;> first | omega | ((try simp (disch := omega) only [zb] at u5318 xq2 h5319 xq12 h5332 xq14 a5352 u5353 h5354 h5355 h5356 h5357 a5612 h5613 h5858 h6103 w6348 w6349 r6350 r6351 r6352 h6353 h6373 h6493 h6538 w6563 w6564 w6565 w6567 w6568 w6570 w6569 w6571 w6573 w6574 w6575 w6577 w6576 w6579 w6580 w6581 w6582 w6583 w6585 w6584 w6586 w6590 w6589 a6591 ⊢) <;> omega))⟩
          · refine sw_ite (fun h6592 => ?_) (fun h6592 => ?_)
            · unfold fX9_pair_228
              have w6593 : mm_I s11 q17 ((0 : Int32).toNatClampNeg) = mm_I q2.2 q17 ((0 : Int32).toNatClampNeg) := by rw [← es11]; exact rd_k tq17 tq5 (by decide)
              have w6594 := (gq2.2.2 _ _ tq17 ((0 : Int32).toNatClampNeg) rfl).1
              have r6595 := ci_rg c0 tq17 ((0 : Int32).toNatClampNeg) (lo := (-1)) (hi := 3) rfl
              have r6596 := ci_rg cq2 tq17 ((0 : Int32).toNatClampNeg) (lo := (-1)) (hi := 3) rfl
              have r6597 := ci_rg cs11 tq17 ((0 : Int32).toNatClampNeg) (lo := (-1)) (hi := 3) rfl
              refine sw_ite (fun h6598 => ?_) (fun h6598 => ?_)
              · have w6599 : mm_I s11 p0 0 = mm_I q2.2 p0 0 := by rw [← es11]; exact rd_k t_p0 tq5 (by decide)
                have w6602 : rdA s11 p0 9 1 = mm_I s11 q17 ((1 : Int32)).toNatClampNeg := rdA_eq eq17
                have w6601 : rdA s11 p0 9 1 = rdA q2.2 p0 9 1 := by rw [← es11]; exact rdA_k cq2 t_p0 (κ' := 59) rfl tq5 (by decide)
                have w6603 := rdA_fr (k := 9) (j := 1) gq2 c0 t_p0 (κ' := 59) rfl rfl rfl
                have w6605 : rdA s11 p0 10 1 = rdA q2.2 p0 10 1 := by rw [← es11]; exact rdA_j (by decide)
                have w6607 : rdA q2.2 p0 10 1 = mm_I q2.2 q5 ((1 : Int32)).toNatClampNeg := rdA_eq eq5
                have w6606 := rdA_fr (k := 10) (j := 1) gq2 c0 t_p0 (κ' := 60) rfl rfl rfl
                have w6609 : rdA s11 p0 10 0 = -1 := by rw [← es11]; exact rdA_self eq5
                have w6611 : rdA s11 p0 9 0 = mm_I s11 q17 ((0 : Int32)).toNatClampNeg := rdA_eq eq17
                have w6610 : rdA s11 p0 9 0 = rdA q2.2 p0 9 0 := by rw [← es11]; exact rdA_k cq2 t_p0 (κ' := 59) rfl tq5 (by decide)
                have w6612 := rdA_fr (k := 9) (j := 0) gq2 c0 t_p0 (κ' := 59) rfl rfl rfl
                have w6616 : rdA q2.2 p0 10 0 = mm_I q2.2 q5 ((0 : Int32)).toNatClampNeg := rdA_eq eq5
                have w6615 := rdA_fr (k := 10) (j := 0) gq2 c0 t_p0 (κ' := 60) rfl rfl rfl
                have a6617 := zi_and p3 127 (by decide)
                have a6618 := zi_and p2 8 (by decide)
                exact sw_some ⟨cs11, fs11, (by (try simp only [zp, zo, zq] at u5318 xq2 h5319 xq12 h5332 xq14 a5352 u5353 h5354 h5355 h5356 h6592 w6593 w6594 r6595 r6596 r6597 h6598 w6599 w6602 w6601 w6603 w6605 w6607 w6606 w6609 w6611 w6610 w6612 w6616 w6615 a6617 a6618 ⊢) <;> (try simp only [zz, Int32.reduceToInt, ne_eq] at u5318 xq2 h5319 xq12 h5332 xq14 a5352 u5353 h5354 h5355 h5356 h6592 w6593 w6594 r6595 r6596 r6597 h6598 w6599 w6602 w6601 w6603 w6605 w6607 w6606 w6609 w6611 w6610 w6612 w6616 w6615 a6617 a6618 ⊢) <;> (try simp (disch := omega) only [zb] at u5318 xq2 h5319 xq12 h5332 xq14 a5352 u5353 h5354 h5355 h5356 h6592 w6593 w6594 r6595 r6596 r6597 h6598 w6599 w6602 w6601 w6603 w6605 w6607 w6606 w6609 w6611 w6610 w6612 w6616 w6615 a6617 a6618 ⊢) <;> first | omega | ((try simp (disch := omega) only [zb] at u5318 xq2 h5319 xq12 h5332 xq14 a5352 u5353 h5354 h5355 h5356 h6592 w6593 w6594 r6595 r6596 r6597 h6598 w6599 w6602 w6601 w6603 w6605 w6607 w6606 w6609 w6611 w6610 w6612 w6616 w6615 a6617 a6618 ⊢) <;> omega))⟩
              · refine sw_ite (fun h6619 => ?_) (fun h6619 => ?_)
                · refine sw_ite (fun h6620 => ?_) (fun h6620 => ?_)
                  · have w6621 : mm_I s11 p0 0 = mm_I q2.2 p0 0 := by rw [← es11]; exact rd_k t_p0 tq5 (by decide)
                    have w6624 : rdA s11 p0 9 1 = mm_I s11 q17 ((1 : Int32)).toNatClampNeg := rdA_eq eq17
                    have w6623 : rdA s11 p0 9 1 = rdA q2.2 p0 9 1 := by rw [← es11]; exact rdA_k cq2 t_p0 (κ' := 59) rfl tq5 (by decide)
                    have w6625 := rdA_fr (k := 9) (j := 1) gq2 c0 t_p0 (κ' := 59) rfl rfl rfl
                    have w6627 : rdA s11 p0 10 1 = rdA q2.2 p0 10 1 := by rw [← es11]; exact rdA_j (by decide)
                    have w6629 : rdA q2.2 p0 10 1 = mm_I q2.2 q5 ((1 : Int32)).toNatClampNeg := rdA_eq eq5
                    have w6628 := rdA_fr (k := 10) (j := 1) gq2 c0 t_p0 (κ' := 60) rfl rfl rfl
                    have w6631 : rdA s11 p0 10 0 = -1 := by rw [← es11]; exact rdA_self eq5
                    have w6633 : rdA s11 p0 9 0 = mm_I s11 q17 ((0 : Int32)).toNatClampNeg := rdA_eq eq17
                    have w6632 : rdA s11 p0 9 0 = rdA q2.2 p0 9 0 := by rw [← es11]; exact rdA_k cq2 t_p0 (κ' := 59) rfl tq5 (by decide)
                    have w6634 := rdA_fr (k := 9) (j := 0) gq2 c0 t_p0 (κ' := 59) rfl rfl rfl
                    have w6638 : rdA q2.2 p0 10 0 = mm_I q2.2 q5 ((0 : Int32)).toNatClampNeg := rdA_eq eq5
                    have w6637 := rdA_fr (k := 10) (j := 0) gq2 c0 t_p0 (κ' := 60) rfl rfl rfl
                    have a6639 := zi_and p3 127 (by decide)
                    have a6640 := zi_and p2 8 (by decide)
                    exact sw_some ⟨cs11, fs11, (by (try simp only [zp, zo, zq] at u5318 xq2 h5319 xq12 h5332 xq14 a5352 u5353 h5354 h5355 h5356 h6592 w6593 w6594 r6595 r6596 r6597 h6598 h6619 h6620 w6621 w6624 w6623 w6625 w6627 w6629 w6628 w6631 w6633 w6632 w6634 w6638 w6637 a6639 a6640 ⊢) <;> (try simp only [zz, Int32.reduceToInt, ne_eq] at u5318 xq2 h5319 xq12 h5332 xq14 a5352 u5353 h5354 h5355 h5356 h6592 w6593 w6594 r6595 r6596 r6597 h6598 h6619 h6620 w6621 w6624 w6623 w6625 w6627 w6629 w6628 w6631 w6633 w6632 w6634 w6638 w6637 a6639 a6640 ⊢) <;> (try simp (disch := omega) only [zb] at u5318 xq2 h5319 xq12 h5332 xq14 a5352 u5353 h5354 h5355 h5356 h6592 w6593 w6594 r6595 r6596 r6597 h6598 h6619 h6620 w6621 w6624 w6623 w6625 w6627 w6629 w6628 w6631 w6633 w6632 w6634 w6638 w6637 a6639 a6640 ⊢) <;> first | omega | ((try simp (disch := omega) only [zb] at u5318 xq2 h5319 xq12 h5332 xq14 a5352 u5353 h5354 h5355 h5356 h6592 w6593 w6594 r6595 r6596 r6597 h6598 h6619 h6620 w6621 w6624 w6623 w6625 w6627 w6629 w6628 w6631 w6633 w6632 w6634 w6638 w6637 a6639 a6640 ⊢) <;> omega))⟩
                  · unfold fX9_pair_250
                    refine sw_ite (fun h6641 => ?_) (fun h6641 => ?_)
                    · unfold fX9_pair_264
                      refine sw_ite (fun h6642 => ?_) (fun h6642 => ?_)
                      · have w6643 : mm_I s11 p0 0 = mm_I q2.2 p0 0 := by rw [← es11]; exact rd_k t_p0 tq5 (by decide)
                        have w6646 : rdA s11 p0 9 1 = mm_I s11 q17 ((1 : Int32)).toNatClampNeg := rdA_eq eq17
                        have w6645 : rdA s11 p0 9 1 = rdA q2.2 p0 9 1 := by rw [← es11]; exact rdA_k cq2 t_p0 (κ' := 59) rfl tq5 (by decide)
                        have w6647 := rdA_fr (k := 9) (j := 1) gq2 c0 t_p0 (κ' := 59) rfl rfl rfl
                        have w6649 : rdA s11 p0 10 1 = rdA q2.2 p0 10 1 := by rw [← es11]; exact rdA_j (by decide)
                        have w6651 : rdA q2.2 p0 10 1 = mm_I q2.2 q5 ((1 : Int32)).toNatClampNeg := rdA_eq eq5
                        have w6650 := rdA_fr (k := 10) (j := 1) gq2 c0 t_p0 (κ' := 60) rfl rfl rfl
                        have w6653 : rdA s11 p0 10 0 = -1 := by rw [← es11]; exact rdA_self eq5
                        have w6655 : rdA s11 p0 9 0 = mm_I s11 q17 ((0 : Int32)).toNatClampNeg := rdA_eq eq17
                        have w6654 : rdA s11 p0 9 0 = rdA q2.2 p0 9 0 := by rw [← es11]; exact rdA_k cq2 t_p0 (κ' := 59) rfl tq5 (by decide)
                        have w6656 := rdA_fr (k := 9) (j := 0) gq2 c0 t_p0 (κ' := 59) rfl rfl rfl
                        have w6660 : rdA q2.2 p0 10 0 = mm_I q2.2 q5 ((0 : Int32)).toNatClampNeg := rdA_eq eq5
                        have w6659 := rdA_fr (k := 10) (j := 0) gq2 c0 t_p0 (κ' := 60) rfl rfl rfl
                        have a6661 := zi_and p3 127 (by decide)
                        have a6662 := zi_and p2 8 (by decide)
                        exact sw_some ⟨cs11, fs11, (by (try simp only [zp, zo, zq] at u5318 xq2 h5319 xq12 h5332 xq14 a5352 u5353 h5354 h5355 h5356 h6592 w6593 w6594 r6595 r6596 r6597 h6598 h6619 h6620 h6641 h6642 w6643 w6646 w6645 w6647 w6649 w6651 w6650 w6653 w6655 w6654 w6656 w6660 w6659 a6661 a6662 ⊢) <;> (try simp only [zz, Int32.reduceToInt, ne_eq] at u5318 xq2 h5319 xq12 h5332 xq14 a5352 u5353 h5354 h5355 h5356 h6592 w6593 w6594 r6595 r6596 r6597 h6598 h6619 h6620 h6641 h6642 w6643 w6646 w6645 w6647 w6649 w6651 w6650 w6653 w6655 w6654 w6656 w6660 w6659 a6661 a6662 ⊢) <;> (try simp (disch := omega) only [zb] at u5318 xq2 h5319 xq12 h5332 xq14 a5352 u5353 h5354 h5355 h5356 h6592 w6593 w6594 r6595 r6596 r6597 h6598 h6619 h6620 h6641 h6642 w6643 w6646 w6645 w6647 w6649 w6651 w6650 w6653 w6655 w6654 w6656 w6660 w6659 a6661 a6662 ⊢) <;> first | omega | ((try simp (disch := omega) only [zb] at u5318 xq2 h5319 xq12 h5332 xq14 a5352 u5353 h5354 h5355 h5356 h6592 w6593 w6594 r6595 r6596 r6597 h6598 h6619 h6620 h6641 h6642 w6643 w6646 w6645 w6647 w6649 w6651 w6650 w6653 w6655 w6654 w6656 w6660 w6659 a6661 a6662 ⊢) <;> omega))⟩
                      · refine sw_sh (ci_sh cs11 t_p0 rfl) ?_
                        refine sw_on (sX9_put cs11 t_p0 (by (try simp only [zp, zo, zq] at u5318 xq2 h5319 xq12 h5332 xq14 a5352 u5353 h5354 h5355 h5356 h6592 w6593 w6594 r6595 r6596 r6597 h6598 h6619 h6620 h6641 h6642 ⊢) <;> (try simp only [zz, Int32.reduceToInt, ne_eq] at u5318 xq2 h5319 xq12 h5332 xq14 a5352 u5353 h5354 h5355 h5356 h6592 w6593 w6594 r6595 r6596 r6597 h6598 h6619 h6620 h6641 h6642 ⊢) <;> (try simp (disch := omega) only [zb] at u5318 xq2 h5319 xq12 h5332 xq14 a5352 u5353 h5354 h5355 h5356 h6592 w6593 w6594 r6595 r6596 r6597 h6598 h6619 h6620 h6641 h6642 ⊢) <;> first | omega | ((try simp (disch := omega) only [zb] at u5318 xq2 h5319 xq12 h5332 xq14 a5352 u5353 h5354 h5355 h5356 h6592 w6593 w6594 r6595 r6596 r6597 h6598 h6619 h6620 h6641 h6642 ⊢) <;> omega)) ) ?_
                        intro q28 hqq28
                        obtain ⟨cq28, gq28, xq28⟩ := hqq28
                        have fq28 := fr_trans fs11 gq28 rfl
                        have w6663 := (gq28.2.2 _ _ t_p0 0 rfl).1
                        have w6664 : mm_I s11 p0 0 = mm_I q2.2 p0 0 := by rw [← es11]; exact rd_k t_p0 tq5 (by decide)
                        have w6666 := rdA_fr (k := 9) (j := 1) gq28 cs11 t_p0 (κ' := 59) rfl rfl rfl
                        have w6668 : rdA s11 p0 9 1 = mm_I s11 q17 ((1 : Int32)).toNatClampNeg := rdA_eq eq17
                        have w6667 : rdA s11 p0 9 1 = rdA q2.2 p0 9 1 := by rw [← es11]; exact rdA_k cq2 t_p0 (κ' := 59) rfl tq5 (by decide)
                        have w6669 := rdA_fr (k := 9) (j := 1) gq2 c0 t_p0 (κ' := 59) rfl rfl rfl
                        have w6671 := rdA_fr (k := 10) (j := 1) gq28 cs11 t_p0 (κ' := 60) rfl rfl rfl
                        have w6672 : rdA s11 p0 10 1 = rdA q2.2 p0 10 1 := by rw [← es11]; exact rdA_j (by decide)
                        have w6674 : rdA q2.2 p0 10 1 = mm_I q2.2 q5 ((1 : Int32)).toNatClampNeg := rdA_eq eq5
                        have w6673 := rdA_fr (k := 10) (j := 1) gq2 c0 t_p0 (κ' := 60) rfl rfl rfl
                        have w6676 := rdA_fr (k := 10) (j := 0) gq28 cs11 t_p0 (κ' := 60) rfl rfl rfl
                        have w6677 : rdA s11 p0 10 0 = -1 := by rw [← es11]; exact rdA_self eq5
                        have w6678 := rdA_fr (k := 9) (j := 0) gq28 cs11 t_p0 (κ' := 59) rfl rfl rfl
                        have w6680 : rdA s11 p0 9 0 = mm_I s11 q17 ((0 : Int32)).toNatClampNeg := rdA_eq eq17
                        have w6679 : rdA s11 p0 9 0 = rdA q2.2 p0 9 0 := by rw [← es11]; exact rdA_k cq2 t_p0 (κ' := 59) rfl tq5 (by decide)
                        have w6681 := rdA_fr (k := 9) (j := 0) gq2 c0 t_p0 (κ' := 59) rfl rfl rfl
                        have w6685 : rdA q2.2 p0 10 0 = mm_I q2.2 q5 ((0 : Int32)).toNatClampNeg := rdA_eq eq5
                        have w6684 := rdA_fr (k := 10) (j := 0) gq2 c0 t_p0 (κ' := 60) rfl rfl rfl
                        have a6686 := zi_and p3 127 (by decide)
                        have a6687 := zi_and p2 8 (by decide)
                        exact sw_some ⟨cq28, fq28, (by (try simp only [zp, zo, zq] at u5318 xq2 h5319 xq12 h5332 xq14 a5352 u5353 h5354 h5355 h5356 h6592 w6593 w6594 r6595 r6596 r6597 h6598 h6619 h6620 h6641 h6642 w6663 w6664 w6666 w6668 w6667 w6669 w6671 w6672 w6674 w6673 w6676 w6677 w6678 w6680 w6679 w6681 w6685 w6684 a6686 a6687 ⊢) <;> (try simp only [zz, Int32.reduceToInt, ne_eq] at u5318 xq2 h5319 xq12 h5332 xq14 a5352 u5353 h5354 h5355 h5356 h6592 w6593 w6594 r6595 r6596 r6597 h6598 h6619 h6620 h6641 h6642 w6663 w6664 w6666 w6668 w6667 w6669 w6671 w6672 w6674 w6673 w6676 w6677 w6678 w6680 w6679 w6681 w6685 w6684 a6686 a6687 ⊢) <;> (try simp (disch := omega) only [zb] at u5318 xq2 h5319 xq12 h5332 xq14 a5352 u5353 h5354 h5355 h5356 h6592 w6593 w6594 r6595 r6596 r6597 h6598 h6619 h6620 h6641 h6642 w6663 w6664 w6666 w6668 w6667 w6669 w6671 w6672 w6674 w6673 w6676 w6677 w6678 w6680 w6679 w6681 w6685 w6684 a6686 a6687 ⊢) <;> first | omega | ((try simp (disch := omega) only [zb] at u5318 xq2 h5319 xq12 h5332 xq14 a5352 u5353 h5354 h5355 h5356 h6592 w6593 w6594 r6595 r6596 r6597 h6598 h6619 h6620 h6641 h6642 w6663 w6664 w6666 w6668 w6667 w6669 w6671 w6672 w6674 w6673 w6676 w6677 w6678 w6680 w6679 w6681 w6685 w6684 a6686 a6687 ⊢) <;> omega))⟩
                    · refine sw_sh (ci_sh cs11 t_p0 rfl) ?_
                      refine sw_on (sX9_put cs11 t_p0 (by (try simp only [zp, zo, zq] at u5318 xq2 h5319 xq12 h5332 xq14 a5352 u5353 h5354 h5355 h5356 h6592 w6593 w6594 r6595 r6596 r6597 h6598 h6619 h6620 h6641 ⊢) <;> (try simp only [zz, Int32.reduceToInt, ne_eq] at u5318 xq2 h5319 xq12 h5332 xq14 a5352 u5353 h5354 h5355 h5356 h6592 w6593 w6594 r6595 r6596 r6597 h6598 h6619 h6620 h6641 ⊢) <;> (try simp (disch := omega) only [zb] at u5318 xq2 h5319 xq12 h5332 xq14 a5352 u5353 h5354 h5355 h5356 h6592 w6593 w6594 r6595 r6596 r6597 h6598 h6619 h6620 h6641 ⊢) <;> first | omega | ((try simp (disch := omega) only [zb] at u5318 xq2 h5319 xq12 h5332 xq14 a5352 u5353 h5354 h5355 h5356 h6592 w6593 w6594 r6595 r6596 r6597 h6598 h6619 h6620 h6641 ⊢) <;> omega)) ) ?_
                      intro q30 hqq30
                      obtain ⟨cq30, gq30, xq30⟩ := hqq30
                      have fq30 := fr_trans fs11 gq30 rfl
                      unfold fX9_pair_264
                      refine sw_ite (fun h6688 => ?_) (fun h6688 => ?_)
                      · have w6689 := (gq30.2.2 _ _ t_p0 0 rfl).1
                        have w6690 : mm_I s11 p0 0 = mm_I q2.2 p0 0 := by rw [← es11]; exact rd_k t_p0 tq5 (by decide)
                        have w6692 := rdA_fr (k := 9) (j := 1) gq30 cs11 t_p0 (κ' := 59) rfl rfl rfl
                        have w6694 : rdA s11 p0 9 1 = mm_I s11 q17 ((1 : Int32)).toNatClampNeg := rdA_eq eq17
                        have w6693 : rdA s11 p0 9 1 = rdA q2.2 p0 9 1 := by rw [← es11]; exact rdA_k cq2 t_p0 (κ' := 59) rfl tq5 (by decide)
                        have w6695 := rdA_fr (k := 9) (j := 1) gq2 c0 t_p0 (κ' := 59) rfl rfl rfl
                        have w6697 := rdA_fr (k := 10) (j := 1) gq30 cs11 t_p0 (κ' := 60) rfl rfl rfl
                        have w6698 : rdA s11 p0 10 1 = rdA q2.2 p0 10 1 := by rw [← es11]; exact rdA_j (by decide)
                        have w6700 : rdA q2.2 p0 10 1 = mm_I q2.2 q5 ((1 : Int32)).toNatClampNeg := rdA_eq eq5
                        have w6699 := rdA_fr (k := 10) (j := 1) gq2 c0 t_p0 (κ' := 60) rfl rfl rfl
                        have w6702 := rdA_fr (k := 10) (j := 0) gq30 cs11 t_p0 (κ' := 60) rfl rfl rfl
                        have w6703 : rdA s11 p0 10 0 = -1 := by rw [← es11]; exact rdA_self eq5
                        have w6704 := rdA_fr (k := 9) (j := 0) gq30 cs11 t_p0 (κ' := 59) rfl rfl rfl
                        have w6706 : rdA s11 p0 9 0 = mm_I s11 q17 ((0 : Int32)).toNatClampNeg := rdA_eq eq17
                        have w6705 : rdA s11 p0 9 0 = rdA q2.2 p0 9 0 := by rw [← es11]; exact rdA_k cq2 t_p0 (κ' := 59) rfl tq5 (by decide)
                        have w6707 := rdA_fr (k := 9) (j := 0) gq2 c0 t_p0 (κ' := 59) rfl rfl rfl
                        have w6711 : rdA q2.2 p0 10 0 = mm_I q2.2 q5 ((0 : Int32)).toNatClampNeg := rdA_eq eq5
                        have w6710 := rdA_fr (k := 10) (j := 0) gq2 c0 t_p0 (κ' := 60) rfl rfl rfl
                        have a6712 := zi_and p3 127 (by decide)
                        have a6713 := zi_and p2 8 (by decide)
                        exact sw_some ⟨cq30, fq30, (by (try simp only [zp, zo, zq] at u5318 xq2 h5319 xq12 h5332 xq14 a5352 u5353 h5354 h5355 h5356 h6592 w6593 w6594 r6595 r6596 r6597 h6598 h6619 h6620 h6641 h6688 w6689 w6690 w6692 w6694 w6693 w6695 w6697 w6698 w6700 w6699 w6702 w6703 w6704 w6706 w6705 w6707 w6711 w6710 a6712 a6713 ⊢) <;> (try simp only [zz, Int32.reduceToInt, ne_eq] at u5318 xq2 h5319 xq12 h5332 xq14 a5352 u5353 h5354 h5355 h5356 h6592 w6593 w6594 r6595 r6596 r6597 h6598 h6619 h6620 h6641 h6688 w6689 w6690 w6692 w6694 w6693 w6695 w6697 w6698 w6700 w6699 w6702 w6703 w6704 w6706 w6705 w6707 w6711 w6710 a6712 a6713 ⊢) <;> (try simp (disch := omega) only [zb] at u5318 xq2 h5319 xq12 h5332 xq14 a5352 u5353 h5354 h5355 h5356 h6592 w6593 w6594 r6595 r6596 r6597 h6598 h6619 h6620 h6641 h6688 w6689 w6690 w6692 w6694 w6693 w6695 w6697 w6698 w6700 w6699 w6702 w6703 w6704 w6706 w6705 w6707 w6711 w6710 a6712 a6713 ⊢) <;> first | omega | ((try simp (disch := omega) only [zb] at u5318 xq2 h5319 xq12 h5332 xq14 a5352 u5353 h5354 h5355 h5356 h6592 w6593 w6594 r6595 r6596 r6597 h6598 h6619 h6620 h6641 h6688 w6689 w6690 w6692 w6694 w6693 w6695 w6697 w6698 w6700 w6699 w6702 w6703 w6704 w6706 w6705 w6707 w6711 w6710 a6712 a6713 ⊢) <;> omega))⟩
                      · refine sw_sh (ci_sh cq30 t_p0 rfl) ?_
                        refine sw_on (sX9_put cq30 t_p0 (by (try simp only [zp, zo, zq] at u5318 xq2 h5319 xq12 h5332 xq14 a5352 u5353 h5354 h5355 h5356 h6592 w6593 w6594 r6595 r6596 r6597 h6598 h6619 h6620 h6641 h6688 ⊢) <;> (try simp only [zz, Int32.reduceToInt, ne_eq] at u5318 xq2 h5319 xq12 h5332 xq14 a5352 u5353 h5354 h5355 h5356 h6592 w6593 w6594 r6595 r6596 r6597 h6598 h6619 h6620 h6641 h6688 ⊢) <;> (try simp (disch := omega) only [zb] at u5318 xq2 h5319 xq12 h5332 xq14 a5352 u5353 h5354 h5355 h5356 h6592 w6593 w6594 r6595 r6596 r6597 h6598 h6619 h6620 h6641 h6688 ⊢) <;> first | omega | ((try simp (disch := omega) only [zb] at u5318 xq2 h5319 xq12 h5332 xq14 a5352 u5353 h5354 h5355 h5356 h6592 w6593 w6594 r6595 r6596 r6597 h6598 h6619 h6620 h6641 h6688 ⊢) <;> omega)) ) ?_
                        intro q28 hqq28
                        obtain ⟨cq28, gq28, xq28⟩ := hqq28
                        have fq28 := fr_trans fq30 gq28 rfl
                        have w6714 := (gq28.2.2 _ _ t_p0 0 rfl).1
                        have w6715 := (gq30.2.2 _ _ t_p0 0 rfl).1
                        have w6716 : mm_I s11 p0 0 = mm_I q2.2 p0 0 := by rw [← es11]; exact rd_k t_p0 tq5 (by decide)
                        have w6718 := rdA_fr (k := 9) (j := 1) gq28 cq30 t_p0 (κ' := 59) rfl rfl rfl
                        have w6719 := rdA_fr (k := 9) (j := 1) gq30 cs11 t_p0 (κ' := 59) rfl rfl rfl
                        have w6721 : rdA s11 p0 9 1 = mm_I s11 q17 ((1 : Int32)).toNatClampNeg := rdA_eq eq17
                        have w6720 : rdA s11 p0 9 1 = rdA q2.2 p0 9 1 := by rw [← es11]; exact rdA_k cq2 t_p0 (κ' := 59) rfl tq5 (by decide)
                        have w6722 := rdA_fr (k := 9) (j := 1) gq2 c0 t_p0 (κ' := 59) rfl rfl rfl
                        have w6724 := rdA_fr (k := 10) (j := 1) gq28 cq30 t_p0 (κ' := 60) rfl rfl rfl
                        have w6725 := rdA_fr (k := 10) (j := 1) gq30 cs11 t_p0 (κ' := 60) rfl rfl rfl
                        have w6726 : rdA s11 p0 10 1 = rdA q2.2 p0 10 1 := by rw [← es11]; exact rdA_j (by decide)
                        have w6728 : rdA q2.2 p0 10 1 = mm_I q2.2 q5 ((1 : Int32)).toNatClampNeg := rdA_eq eq5
                        have w6727 := rdA_fr (k := 10) (j := 1) gq2 c0 t_p0 (κ' := 60) rfl rfl rfl
                        have w6730 := rdA_fr (k := 10) (j := 0) gq28 cq30 t_p0 (κ' := 60) rfl rfl rfl
                        have w6731 := rdA_fr (k := 10) (j := 0) gq30 cs11 t_p0 (κ' := 60) rfl rfl rfl
                        have w6732 : rdA s11 p0 10 0 = -1 := by rw [← es11]; exact rdA_self eq5
                        have w6733 := rdA_fr (k := 9) (j := 0) gq28 cq30 t_p0 (κ' := 59) rfl rfl rfl
                        have w6734 := rdA_fr (k := 9) (j := 0) gq30 cs11 t_p0 (κ' := 59) rfl rfl rfl
                        have w6736 : rdA s11 p0 9 0 = mm_I s11 q17 ((0 : Int32)).toNatClampNeg := rdA_eq eq17
                        have w6735 : rdA s11 p0 9 0 = rdA q2.2 p0 9 0 := by rw [← es11]; exact rdA_k cq2 t_p0 (κ' := 59) rfl tq5 (by decide)
                        have w6737 := rdA_fr (k := 9) (j := 0) gq2 c0 t_p0 (κ' := 59) rfl rfl rfl
                        have w6741 : rdA q2.2 p0 10 0 = mm_I q2.2 q5 ((0 : Int32)).toNatClampNeg := rdA_eq eq5
                        have w6740 := rdA_fr (k := 10) (j := 0) gq2 c0 t_p0 (κ' := 60) rfl rfl rfl
                        have a6742 := zi_and p3 127 (by decide)
                        have a6743 := zi_and p2 8 (by decide)
                        exact sw_some ⟨cq28, fq28, (by (try simp only [zp, zo, zq] at u5318 xq2 h5319 xq12 h5332 xq14 a5352 u5353 h5354 h5355 h5356 h6592 w6593 w6594 r6595 r6596 r6597 h6598 h6619 h6620 h6641 h6688 w6714 w6715 w6716 w6718 w6719 w6721 w6720 w6722 w6724 w6725 w6726 w6728 w6727 w6730 w6731 w6732 w6733 w6734 w6736 w6735 w6737 w6741 w6740 a6742 a6743 ⊢) <;> (try simp only [zz, Int32.reduceToInt, ne_eq] at u5318 xq2 h5319 xq12 h5332 xq14 a5352 u5353 h5354 h5355 h5356 h6592 w6593 w6594 r6595 r6596 r6597 h6598 h6619 h6620 h6641 h6688 w6714 w6715 w6716 w6718 w6719 w6721 w6720 w6722 w6724 w6725 w6726 w6728 w6727 w6730 w6731 w6732 w6733 w6734 w6736 w6735 w6737 w6741 w6740 a6742 a6743 ⊢) <;> (try simp (disch := omega) only [zb] at u5318 xq2 h5319 xq12 h5332 xq14 a5352 u5353 h5354 h5355 h5356 h6592 w6593 w6594 r6595 r6596 r6597 h6598 h6619 h6620 h6641 h6688 w6714 w6715 w6716 w6718 w6719 w6721 w6720 w6722 w6724 w6725 w6726 w6728 w6727 w6730 w6731 w6732 w6733 w6734 w6736 w6735 w6737 w6741 w6740 a6742 a6743 ⊢) <;> first | omega | ((try simp (disch := omega) only [zb] at u5318 xq2 h5319 xq12 h5332 xq14 a5352 u5353 h5354 h5355 h5356 h6592 w6593 w6594 r6595 r6596 r6597 h6598 h6619 h6620 h6641 h6688 w6714 w6715 w6716 w6718 w6719 w6721 w6720 w6722 w6724 w6725 w6726 w6728 w6727 w6730 w6731 w6732 w6733 w6734 w6736 w6735 w6737 w6741 w6740 a6742 a6743 ⊢) <;> omega))⟩
                · unfold fX9_pair_250
                  refine sw_ite (fun h6744 => ?_) (fun h6744 => ?_)
                  · unfold fX9_pair_264
                    refine sw_ite (fun h6745 => ?_) (fun h6745 => ?_)
                    · have w6746 : mm_I s11 p0 0 = mm_I q2.2 p0 0 := by rw [← es11]; exact rd_k t_p0 tq5 (by decide)
                      have w6749 : rdA s11 p0 9 1 = mm_I s11 q17 ((1 : Int32)).toNatClampNeg := rdA_eq eq17
                      have w6748 : rdA s11 p0 9 1 = rdA q2.2 p0 9 1 := by rw [← es11]; exact rdA_k cq2 t_p0 (κ' := 59) rfl tq5 (by decide)
                      have w6750 := rdA_fr (k := 9) (j := 1) gq2 c0 t_p0 (κ' := 59) rfl rfl rfl
                      have w6752 : rdA s11 p0 10 1 = rdA q2.2 p0 10 1 := by rw [← es11]; exact rdA_j (by decide)
                      have w6754 : rdA q2.2 p0 10 1 = mm_I q2.2 q5 ((1 : Int32)).toNatClampNeg := rdA_eq eq5
                      have w6753 := rdA_fr (k := 10) (j := 1) gq2 c0 t_p0 (κ' := 60) rfl rfl rfl
                      have w6756 : rdA s11 p0 10 0 = -1 := by rw [← es11]; exact rdA_self eq5
                      have w6758 : rdA s11 p0 9 0 = mm_I s11 q17 ((0 : Int32)).toNatClampNeg := rdA_eq eq17
                      have w6757 : rdA s11 p0 9 0 = rdA q2.2 p0 9 0 := by rw [← es11]; exact rdA_k cq2 t_p0 (κ' := 59) rfl tq5 (by decide)
                      have w6759 := rdA_fr (k := 9) (j := 0) gq2 c0 t_p0 (κ' := 59) rfl rfl rfl
                      have w6763 : rdA q2.2 p0 10 0 = mm_I q2.2 q5 ((0 : Int32)).toNatClampNeg := rdA_eq eq5
                      have w6762 := rdA_fr (k := 10) (j := 0) gq2 c0 t_p0 (κ' := 60) rfl rfl rfl
                      have a6764 := zi_and p3 127 (by decide)
                      have a6765 := zi_and p2 8 (by decide)
                      exact sw_some ⟨cs11, fs11, (by (try simp only [zp, zo, zq] at u5318 xq2 h5319 xq12 h5332 xq14 a5352 u5353 h5354 h5355 h5356 h6592 w6593 w6594 r6595 r6596 r6597 h6598 h6619 h6744 h6745 w6746 w6749 w6748 w6750 w6752 w6754 w6753 w6756 w6758 w6757 w6759 w6763 w6762 a6764 a6765 ⊢) <;> (try simp only [zz, Int32.reduceToInt, ne_eq] at u5318 xq2 h5319 xq12 h5332 xq14 a5352 u5353 h5354 h5355 h5356 h6592 w6593 w6594 r6595 r6596 r6597 h6598 h6619 h6744 h6745 w6746 w6749 w6748 w6750 w6752 w6754 w6753 w6756 w6758 w6757 w6759 w6763 w6762 a6764 a6765 ⊢) <;> (try simp (disch := omega) only [zb] at u5318 xq2 h5319 xq12 h5332 xq14 a5352 u5353 h5354 h5355 h5356 h6592 w6593 w6594 r6595 r6596 r6597 h6598 h6619 h6744 h6745 w6746 w6749 w6748 w6750 w6752 w6754 w6753 w6756 w6758 w6757 w6759 w6763 w6762 a6764 a6765 ⊢) <;> first | omega | ((try simp (disch := omega) only [zb] at u5318 xq2 h5319 xq12 h5332 xq14 a5352 u5353 h5354 h5355 h5356 h6592 w6593 w6594 r6595 r6596 r6597 h6598 h6619 h6744 h6745 w6746 w6749 w6748 w6750 w6752 w6754 w6753 w6756 w6758 w6757 w6759 w6763 w6762 a6764 a6765 ⊢) <;> omega))⟩
                    · refine sw_sh (ci_sh cs11 t_p0 rfl) ?_
                      refine sw_on (sX9_put cs11 t_p0 (by (try simp only [zp, zo, zq] at u5318 xq2 h5319 xq12 h5332 xq14 a5352 u5353 h5354 h5355 h5356 h6592 w6593 w6594 r6595 r6596 r6597 h6598 h6619 h6744 h6745 ⊢) <;> (try simp only [zz, Int32.reduceToInt, ne_eq] at u5318 xq2 h5319 xq12 h5332 xq14 a5352 u5353 h5354 h5355 h5356 h6592 w6593 w6594 r6595 r6596 r6597 h6598 h6619 h6744 h6745 ⊢) <;> (try simp (disch := omega) only [zb] at u5318 xq2 h5319 xq12 h5332 xq14 a5352 u5353 h5354 h5355 h5356 h6592 w6593 w6594 r6595 r6596 r6597 h6598 h6619 h6744 h6745 ⊢) <;> first | omega | ((try simp (disch := omega) only [zb] at u5318 xq2 h5319 xq12 h5332 xq14 a5352 u5353 h5354 h5355 h5356 h6592 w6593 w6594 r6595 r6596 r6597 h6598 h6619 h6744 h6745 ⊢) <;> omega)) ) ?_
                      intro q28 hqq28
                      obtain ⟨cq28, gq28, xq28⟩ := hqq28
                      have fq28 := fr_trans fs11 gq28 rfl
                      have w6766 := (gq28.2.2 _ _ t_p0 0 rfl).1
                      have w6767 : mm_I s11 p0 0 = mm_I q2.2 p0 0 := by rw [← es11]; exact rd_k t_p0 tq5 (by decide)
                      have w6769 := rdA_fr (k := 9) (j := 1) gq28 cs11 t_p0 (κ' := 59) rfl rfl rfl
                      have w6771 : rdA s11 p0 9 1 = mm_I s11 q17 ((1 : Int32)).toNatClampNeg := rdA_eq eq17
                      have w6770 : rdA s11 p0 9 1 = rdA q2.2 p0 9 1 := by rw [← es11]; exact rdA_k cq2 t_p0 (κ' := 59) rfl tq5 (by decide)
                      have w6772 := rdA_fr (k := 9) (j := 1) gq2 c0 t_p0 (κ' := 59) rfl rfl rfl
                      have w6774 := rdA_fr (k := 10) (j := 1) gq28 cs11 t_p0 (κ' := 60) rfl rfl rfl
                      have w6775 : rdA s11 p0 10 1 = rdA q2.2 p0 10 1 := by rw [← es11]; exact rdA_j (by decide)
                      have w6777 : rdA q2.2 p0 10 1 = mm_I q2.2 q5 ((1 : Int32)).toNatClampNeg := rdA_eq eq5
                      have w6776 := rdA_fr (k := 10) (j := 1) gq2 c0 t_p0 (κ' := 60) rfl rfl rfl
                      have w6779 := rdA_fr (k := 10) (j := 0) gq28 cs11 t_p0 (κ' := 60) rfl rfl rfl
                      have w6780 : rdA s11 p0 10 0 = -1 := by rw [← es11]; exact rdA_self eq5
                      have w6781 := rdA_fr (k := 9) (j := 0) gq28 cs11 t_p0 (κ' := 59) rfl rfl rfl
                      have w6783 : rdA s11 p0 9 0 = mm_I s11 q17 ((0 : Int32)).toNatClampNeg := rdA_eq eq17
                      have w6782 : rdA s11 p0 9 0 = rdA q2.2 p0 9 0 := by rw [← es11]; exact rdA_k cq2 t_p0 (κ' := 59) rfl tq5 (by decide)
                      have w6784 := rdA_fr (k := 9) (j := 0) gq2 c0 t_p0 (κ' := 59) rfl rfl rfl
                      have w6788 : rdA q2.2 p0 10 0 = mm_I q2.2 q5 ((0 : Int32)).toNatClampNeg := rdA_eq eq5
                      have w6787 := rdA_fr (k := 10) (j := 0) gq2 c0 t_p0 (κ' := 60) rfl rfl rfl
                      have a6789 := zi_and p3 127 (by decide)
                      have a6790 := zi_and p2 8 (by decide)
                      exact sw_some ⟨cq28, fq28, (by (try simp only [zp, zo, zq] at u5318 xq2 h5319 xq12 h5332 xq14 a5352 u5353 h5354 h5355 h5356 h6592 w6593 w6594 r6595 r6596 r6597 h6598 h6619 h6744 h6745 w6766 w6767 w6769 w6771 w6770 w6772 w6774 w6775 w6777 w6776 w6779 w6780 w6781 w6783 w6782 w6784 w6788 w6787 a6789 a6790 ⊢) <;> (try simp only [zz, Int32.reduceToInt, ne_eq] at u5318 xq2 h5319 xq12 h5332 xq14 a5352 u5353 h5354 h5355 h5356 h6592 w6593 w6594 r6595 r6596 r6597 h6598 h6619 h6744 h6745 w6766 w6767 w6769 w6771 w6770 w6772 w6774 w6775 w6777 w6776 w6779 w6780 w6781 w6783 w6782 w6784 w6788 w6787 a6789 a6790 ⊢) <;> (try simp (disch := omega) only [zb] at u5318 xq2 h5319 xq12 h5332 xq14 a5352 u5353 h5354 h5355 h5356 h6592 w6593 w6594 r6595 r6596 r6597 h6598 h6619 h6744 h6745 w6766 w6767 w6769 w6771 w6770 w6772 w6774 w6775 w6777 w6776 w6779 w6780 w6781 w6783 w6782 w6784 w6788 w6787 a6789 a6790 ⊢) <;> first | omega | ((try simp (disch := omega) only [zb] at u5318 xq2 h5319 xq12 h5332 xq14 a5352 u5353 h5354 h5355 h5356 h6592 w6593 w6594 r6595 r6596 r6597 h6598 h6619 h6744 h6745 w6766 w6767 w6769 w6771 w6770 w6772 w6774 w6775 w6777 w6776 w6779 w6780 w6781 w6783 w6782 w6784 w6788 w6787 a6789 a6790 ⊢) <;> omega))⟩
                  · refine sw_sh (ci_sh cs11 t_p0 rfl) ?_
                    refine sw_on (sX9_put cs11 t_p0 (by (try simp only [zp, zo, zq] at u5318 xq2 h5319 xq12 h5332 xq14 a5352 u5353 h5354 h5355 h5356 h6592 w6593 w6594 r6595 r6596 r6597 h6598 h6619 h6744 ⊢) <;> (try simp only [zz, Int32.reduceToInt, ne_eq] at u5318 xq2 h5319 xq12 h5332 xq14 a5352 u5353 h5354 h5355 h5356 h6592 w6593 w6594 r6595 r6596 r6597 h6598 h6619 h6744 ⊢) <;> (try simp (disch := omega) only [zb] at u5318 xq2 h5319 xq12 h5332 xq14 a5352 u5353 h5354 h5355 h5356 h6592 w6593 w6594 r6595 r6596 r6597 h6598 h6619 h6744 ⊢) <;> first | omega | ((try simp (disch := omega) only [zb] at u5318 xq2 h5319 xq12 h5332 xq14 a5352 u5353 h5354 h5355 h5356 h6592 w6593 w6594 r6595 r6596 r6597 h6598 h6619 h6744 ⊢) <;> omega)) ) ?_
                    intro q30 hqq30
                    obtain ⟨cq30, gq30, xq30⟩ := hqq30
                    have fq30 := fr_trans fs11 gq30 rfl
                    unfold fX9_pair_264
                    refine sw_ite (fun h6791 => ?_) (fun h6791 => ?_)
                    · have w6792 := (gq30.2.2 _ _ t_p0 0 rfl).1
                      have w6793 : mm_I s11 p0 0 = mm_I q2.2 p0 0 := by rw [← es11]; exact rd_k t_p0 tq5 (by decide)
                      have w6795 := rdA_fr (k := 9) (j := 1) gq30 cs11 t_p0 (κ' := 59) rfl rfl rfl
                      have w6797 : rdA s11 p0 9 1 = mm_I s11 q17 ((1 : Int32)).toNatClampNeg := rdA_eq eq17
                      have w6796 : rdA s11 p0 9 1 = rdA q2.2 p0 9 1 := by rw [← es11]; exact rdA_k cq2 t_p0 (κ' := 59) rfl tq5 (by decide)
                      have w6798 := rdA_fr (k := 9) (j := 1) gq2 c0 t_p0 (κ' := 59) rfl rfl rfl
                      have w6800 := rdA_fr (k := 10) (j := 1) gq30 cs11 t_p0 (κ' := 60) rfl rfl rfl
                      have w6801 : rdA s11 p0 10 1 = rdA q2.2 p0 10 1 := by rw [← es11]; exact rdA_j (by decide)
                      have w6803 : rdA q2.2 p0 10 1 = mm_I q2.2 q5 ((1 : Int32)).toNatClampNeg := rdA_eq eq5
                      have w6802 := rdA_fr (k := 10) (j := 1) gq2 c0 t_p0 (κ' := 60) rfl rfl rfl
                      have w6805 := rdA_fr (k := 10) (j := 0) gq30 cs11 t_p0 (κ' := 60) rfl rfl rfl
                      have w6806 : rdA s11 p0 10 0 = -1 := by rw [← es11]; exact rdA_self eq5
                      have w6807 := rdA_fr (k := 9) (j := 0) gq30 cs11 t_p0 (κ' := 59) rfl rfl rfl
                      have w6809 : rdA s11 p0 9 0 = mm_I s11 q17 ((0 : Int32)).toNatClampNeg := rdA_eq eq17
                      have w6808 : rdA s11 p0 9 0 = rdA q2.2 p0 9 0 := by rw [← es11]; exact rdA_k cq2 t_p0 (κ' := 59) rfl tq5 (by decide)
                      have w6810 := rdA_fr (k := 9) (j := 0) gq2 c0 t_p0 (κ' := 59) rfl rfl rfl
                      have w6814 : rdA q2.2 p0 10 0 = mm_I q2.2 q5 ((0 : Int32)).toNatClampNeg := rdA_eq eq5
                      have w6813 := rdA_fr (k := 10) (j := 0) gq2 c0 t_p0 (κ' := 60) rfl rfl rfl
                      have a6815 := zi_and p3 127 (by decide)
                      have a6816 := zi_and p2 8 (by decide)
                      exact sw_some ⟨cq30, fq30, (by (try simp only [zp, zo, zq] at u5318 xq2 h5319 xq12 h5332 xq14 a5352 u5353 h5354 h5355 h5356 h6592 w6593 w6594 r6595 r6596 r6597 h6598 h6619 h6744 h6791 w6792 w6793 w6795 w6797 w6796 w6798 w6800 w6801 w6803 w6802 w6805 w6806 w6807 w6809 w6808 w6810 w6814 w6813 a6815 a6816 ⊢) <;> (try simp only [zz, Int32.reduceToInt, ne_eq] at u5318 xq2 h5319 xq12 h5332 xq14 a5352 u5353 h5354 h5355 h5356 h6592 w6593 w6594 r6595 r6596 r6597 h6598 h6619 h6744 h6791 w6792 w6793 w6795 w6797 w6796 w6798 w6800 w6801 w6803 w6802 w6805 w6806 w6807 w6809 w6808 w6810 w6814 w6813 a6815 a6816 ⊢) <;> (try simp (disch := omega) only [zb] at u5318 xq2 h5319 xq12 h5332 xq14 a5352 u5353 h5354 h5355 h5356 h6592 w6593 w6594 r6595 r6596 r6597 h6598 h6619 h6744 h6791 w6792 w6793 w6795 w6797 w6796 w6798 w6800 w6801 w6803 w6802 w6805 w6806 w6807 w6809 w6808 w6810 w6814 w6813 a6815 a6816 ⊢) <;> first | omega | ((try simp (disch := omega) only [zb] at u5318 xq2 h5319 xq12 h5332 xq14 a5352 u5353 h5354 h5355 h5356 h6592 w6593 w6594 r6595 r6596 r6597 h6598 h6619 h6744 h6791 w6792 w6793 w6795 w6797 w6796 w6798 w6800 w6801 w6803 w6802 w6805 w6806 w6807 w6809 w6808 w6810 w6814 w6813 a6815 a6816 ⊢) <;> omega))⟩
                    · refine sw_sh (ci_sh cq30 t_p0 rfl) ?_
                      refine sw_on (sX9_put cq30 t_p0 (by (try simp only [zp, zo, zq] at u5318 xq2 h5319 xq12 h5332 xq14 a5352 u5353 h5354 h5355 h5356 h6592 w6593 w6594 r6595 r6596 r6597 h6598 h6619 h6744 h6791 ⊢) <;> (try simp only [zz, Int32.reduceToInt, ne_eq] at u5318 xq2 h5319 xq12 h5332 xq14 a5352 u5353 h5354 h5355 h5356 h6592 w6593 w6594 r6595 r6596 r6597 h6598 h6619 h6744 h6791 ⊢) <;> (try simp (disch := omega) only [zb] at u5318 xq2 h5319 xq12 h5332 xq14 a5352 u5353 h5354 h5355 h5356 h6592 w6593 w6594 r6595 r6596 r6597 h6598 h6619 h6744 h6791 ⊢) <;> first | omega | ((try simp (disch := omega) only [zb] at u5318 xq2 h5319 xq12 h5332 xq14 a5352 u5353 h5354 h5355 h5356 h6592 w6593 w6594 r6595 r6596 r6597 h6598 h6619 h6744 h6791 ⊢) <;> omega)) ) ?_
                      intro q28 hqq28
                      obtain ⟨cq28, gq28, xq28⟩ := hqq28
                      have fq28 := fr_trans fq30 gq28 rfl
                      have w6817 := (gq28.2.2 _ _ t_p0 0 rfl).1
                      have w6818 := (gq30.2.2 _ _ t_p0 0 rfl).1
                      have w6819 : mm_I s11 p0 0 = mm_I q2.2 p0 0 := by rw [← es11]; exact rd_k t_p0 tq5 (by decide)
                      have w6821 := rdA_fr (k := 9) (j := 1) gq28 cq30 t_p0 (κ' := 59) rfl rfl rfl
                      have w6822 := rdA_fr (k := 9) (j := 1) gq30 cs11 t_p0 (κ' := 59) rfl rfl rfl
                      have w6824 : rdA s11 p0 9 1 = mm_I s11 q17 ((1 : Int32)).toNatClampNeg := rdA_eq eq17
                      have w6823 : rdA s11 p0 9 1 = rdA q2.2 p0 9 1 := by rw [← es11]; exact rdA_k cq2 t_p0 (κ' := 59) rfl tq5 (by decide)
                      have w6825 := rdA_fr (k := 9) (j := 1) gq2 c0 t_p0 (κ' := 59) rfl rfl rfl
                      have w6827 := rdA_fr (k := 10) (j := 1) gq28 cq30 t_p0 (κ' := 60) rfl rfl rfl
                      have w6828 := rdA_fr (k := 10) (j := 1) gq30 cs11 t_p0 (κ' := 60) rfl rfl rfl
                      have w6829 : rdA s11 p0 10 1 = rdA q2.2 p0 10 1 := by rw [← es11]; exact rdA_j (by decide)
                      have w6831 : rdA q2.2 p0 10 1 = mm_I q2.2 q5 ((1 : Int32)).toNatClampNeg := rdA_eq eq5
                      have w6830 := rdA_fr (k := 10) (j := 1) gq2 c0 t_p0 (κ' := 60) rfl rfl rfl
                      have w6833 := rdA_fr (k := 10) (j := 0) gq28 cq30 t_p0 (κ' := 60) rfl rfl rfl
                      have w6834 := rdA_fr (k := 10) (j := 0) gq30 cs11 t_p0 (κ' := 60) rfl rfl rfl
                      have w6835 : rdA s11 p0 10 0 = -1 := by rw [← es11]; exact rdA_self eq5
                      have w6836 := rdA_fr (k := 9) (j := 0) gq28 cq30 t_p0 (κ' := 59) rfl rfl rfl
                      have w6837 := rdA_fr (k := 9) (j := 0) gq30 cs11 t_p0 (κ' := 59) rfl rfl rfl
                      have w6839 : rdA s11 p0 9 0 = mm_I s11 q17 ((0 : Int32)).toNatClampNeg := rdA_eq eq17
                      have w6838 : rdA s11 p0 9 0 = rdA q2.2 p0 9 0 := by rw [← es11]; exact rdA_k cq2 t_p0 (κ' := 59) rfl tq5 (by decide)
                      have w6840 := rdA_fr (k := 9) (j := 0) gq2 c0 t_p0 (κ' := 59) rfl rfl rfl
                      have w6844 : rdA q2.2 p0 10 0 = mm_I q2.2 q5 ((0 : Int32)).toNatClampNeg := rdA_eq eq5
                      have w6843 := rdA_fr (k := 10) (j := 0) gq2 c0 t_p0 (κ' := 60) rfl rfl rfl
                      have a6845 := zi_and p3 127 (by decide)
                      have a6846 := zi_and p2 8 (by decide)
                      exact sw_some ⟨cq28, fq28, (by (try simp only [zp, zo, zq] at u5318 xq2 h5319 xq12 h5332 xq14 a5352 u5353 h5354 h5355 h5356 h6592 w6593 w6594 r6595 r6596 r6597 h6598 h6619 h6744 h6791 w6817 w6818 w6819 w6821 w6822 w6824 w6823 w6825 w6827 w6828 w6829 w6831 w6830 w6833 w6834 w6835 w6836 w6837 w6839 w6838 w6840 w6844 w6843 a6845 a6846 ⊢) <;> (try simp only [zz, Int32.reduceToInt, ne_eq] at u5318 xq2 h5319 xq12 h5332 xq14 a5352 u5353 h5354 h5355 h5356 h6592 w6593 w6594 r6595 r6596 r6597 h6598 h6619 h6744 h6791 w6817 w6818 w6819 w6821 w6822 w6824 w6823 w6825 w6827 w6828 w6829 w6831 w6830 w6833 w6834 w6835 w6836 w6837 w6839 w6838 w6840 w6844 w6843 a6845 a6846 ⊢) <;> (try simp (disch := omega) only [zb] at u5318 xq2 h5319 xq12 h5332 xq14 a5352 u5353 h5354 h5355 h5356 h6592 w6593 w6594 r6595 r6596 r6597 h6598 h6619 h6744 h6791 w6817 w6818 w6819 w6821 w6822 w6824 w6823 w6825 w6827 w6828 w6829 w6831 w6830 w6833 w6834 w6835 w6836 w6837 w6839 w6838 w6840 w6844 w6843 a6845 a6846 ⊢) <;> first | omega | ((try simp (disch := omega) only [zb] at u5318 xq2 h5319 xq12 h5332 xq14 a5352 u5353 h5354 h5355 h5356 h6592 w6593 w6594 r6595 r6596 r6597 h6598 h6619 h6744 h6791 w6817 w6818 w6819 w6821 w6822 w6824 w6823 w6825 w6827 w6828 w6829 w6831 w6830 w6833 w6834 w6835 w6836 w6837 w6839 w6838 w6840 w6844 w6843 a6845 a6846 ⊢) <;> omega))⟩
            · unfold fX9_pair_198
              refine sw_ite (fun h6847 => ?_) (fun h6847 => ?_)
              · unfold fX9_pair_227
                unfold fX9_pair_228
                have w6848 : mm_I s11 q17 ((0 : Int32).toNatClampNeg) = mm_I q2.2 q17 ((0 : Int32).toNatClampNeg) := by rw [← es11]; exact rd_k tq17 tq5 (by decide)
                have w6849 := (gq2.2.2 _ _ tq17 ((0 : Int32).toNatClampNeg) rfl).1
                have r6850 := ci_rg c0 tq17 ((0 : Int32).toNatClampNeg) (lo := (-1)) (hi := 3) rfl
                have r6851 := ci_rg cq2 tq17 ((0 : Int32).toNatClampNeg) (lo := (-1)) (hi := 3) rfl
                have r6852 := ci_rg cs11 tq17 ((0 : Int32).toNatClampNeg) (lo := (-1)) (hi := 3) rfl
                refine sw_ite (fun h6853 => ?_) (fun h6853 => ?_)
                · have w6854 : mm_I s11 p0 0 = mm_I q2.2 p0 0 := by rw [← es11]; exact rd_k t_p0 tq5 (by decide)
                  have w6857 : rdA s11 p0 9 1 = mm_I s11 q17 ((1 : Int32)).toNatClampNeg := rdA_eq eq17
                  have w6856 : rdA s11 p0 9 1 = rdA q2.2 p0 9 1 := by rw [← es11]; exact rdA_k cq2 t_p0 (κ' := 59) rfl tq5 (by decide)
                  have w6858 := rdA_fr (k := 9) (j := 1) gq2 c0 t_p0 (κ' := 59) rfl rfl rfl
                  have w6860 : rdA s11 p0 10 1 = rdA q2.2 p0 10 1 := by rw [← es11]; exact rdA_j (by decide)
                  have w6862 : rdA q2.2 p0 10 1 = mm_I q2.2 q5 ((1 : Int32)).toNatClampNeg := rdA_eq eq5
                  have w6861 := rdA_fr (k := 10) (j := 1) gq2 c0 t_p0 (κ' := 60) rfl rfl rfl
                  have w6864 : rdA s11 p0 10 0 = -1 := by rw [← es11]; exact rdA_self eq5
                  have w6866 : rdA s11 p0 9 0 = mm_I s11 q17 ((0 : Int32)).toNatClampNeg := rdA_eq eq17
                  have w6865 : rdA s11 p0 9 0 = rdA q2.2 p0 9 0 := by rw [← es11]; exact rdA_k cq2 t_p0 (κ' := 59) rfl tq5 (by decide)
                  have w6867 := rdA_fr (k := 9) (j := 0) gq2 c0 t_p0 (κ' := 59) rfl rfl rfl
                  have w6871 : rdA q2.2 p0 10 0 = mm_I q2.2 q5 ((0 : Int32)).toNatClampNeg := rdA_eq eq5
                  have w6870 := rdA_fr (k := 10) (j := 0) gq2 c0 t_p0 (κ' := 60) rfl rfl rfl
                  have a6872 := zi_and p3 127 (by decide)
                  have a6873 := zi_and p2 8 (by decide)
                  exact sw_some ⟨cs11, fs11, (by (try simp only [zp, zo, zq] at u5318 xq2 h5319 xq12 h5332 xq14 a5352 u5353 h5354 h5355 h5356 h6592 h6847 w6848 w6849 r6850 r6851 r6852 h6853 w6854 w6857 w6856 w6858 w6860 w6862 w6861 w6864 w6866 w6865 w6867 w6871 w6870 a6872 a6873 ⊢) <;> (try simp only [zz, Int32.reduceToInt, ne_eq] at u5318 xq2 h5319 xq12 h5332 xq14 a5352 u5353 h5354 h5355 h5356 h6592 h6847 w6848 w6849 r6850 r6851 r6852 h6853 w6854 w6857 w6856 w6858 w6860 w6862 w6861 w6864 w6866 w6865 w6867 w6871 w6870 a6872 a6873 ⊢) <;> (try simp (disch := omega) only [zb] at u5318 xq2 h5319 xq12 h5332 xq14 a5352 u5353 h5354 h5355 h5356 h6592 h6847 w6848 w6849 r6850 r6851 r6852 h6853 w6854 w6857 w6856 w6858 w6860 w6862 w6861 w6864 w6866 w6865 w6867 w6871 w6870 a6872 a6873 ⊢) <;> first | omega | ((try simp (disch := omega) only [zb] at u5318 xq2 h5319 xq12 h5332 xq14 a5352 u5353 h5354 h5355 h5356 h6592 h6847 w6848 w6849 r6850 r6851 r6852 h6853 w6854 w6857 w6856 w6858 w6860 w6862 w6861 w6864 w6866 w6865 w6867 w6871 w6870 a6872 a6873 ⊢) <;> omega))⟩
                · refine sw_ite (fun h6874 => ?_) (fun h6874 => ?_)
                  · refine sw_ite (fun h6875 => ?_) (fun h6875 => ?_)
                    · have w6876 : mm_I s11 p0 0 = mm_I q2.2 p0 0 := by rw [← es11]; exact rd_k t_p0 tq5 (by decide)
                      have w6879 : rdA s11 p0 9 1 = mm_I s11 q17 ((1 : Int32)).toNatClampNeg := rdA_eq eq17
                      have w6878 : rdA s11 p0 9 1 = rdA q2.2 p0 9 1 := by rw [← es11]; exact rdA_k cq2 t_p0 (κ' := 59) rfl tq5 (by decide)
                      have w6880 := rdA_fr (k := 9) (j := 1) gq2 c0 t_p0 (κ' := 59) rfl rfl rfl
                      have w6882 : rdA s11 p0 10 1 = rdA q2.2 p0 10 1 := by rw [← es11]; exact rdA_j (by decide)
                      have w6884 : rdA q2.2 p0 10 1 = mm_I q2.2 q5 ((1 : Int32)).toNatClampNeg := rdA_eq eq5
                      have w6883 := rdA_fr (k := 10) (j := 1) gq2 c0 t_p0 (κ' := 60) rfl rfl rfl
                      have w6886 : rdA s11 p0 10 0 = -1 := by rw [← es11]; exact rdA_self eq5
                      have w6888 : rdA s11 p0 9 0 = mm_I s11 q17 ((0 : Int32)).toNatClampNeg := rdA_eq eq17
                      have w6887 : rdA s11 p0 9 0 = rdA q2.2 p0 9 0 := by rw [← es11]; exact rdA_k cq2 t_p0 (κ' := 59) rfl tq5 (by decide)
                      have w6889 := rdA_fr (k := 9) (j := 0) gq2 c0 t_p0 (κ' := 59) rfl rfl rfl
                      have w6893 : rdA q2.2 p0 10 0 = mm_I q2.2 q5 ((0 : Int32)).toNatClampNeg := rdA_eq eq5
                      have w6892 := rdA_fr (k := 10) (j := 0) gq2 c0 t_p0 (κ' := 60) rfl rfl rfl
                      have a6894 := zi_and p3 127 (by decide)
                      have a6895 := zi_and p2 8 (by decide)
                      exact sw_some ⟨cs11, fs11, (by (try simp only [zp, zo, zq] at u5318 xq2 h5319 xq12 h5332 xq14 a5352 u5353 h5354 h5355 h5356 h6592 h6847 w6848 w6849 r6850 r6851 r6852 h6853 h6874 h6875 w6876 w6879 w6878 w6880 w6882 w6884 w6883 w6886 w6888 w6887 w6889 w6893 w6892 a6894 a6895 ⊢) <;> (try simp only [zz, Int32.reduceToInt, ne_eq] at u5318 xq2 h5319 xq12 h5332 xq14 a5352 u5353 h5354 h5355 h5356 h6592 h6847 w6848 w6849 r6850 r6851 r6852 h6853 h6874 h6875 w6876 w6879 w6878 w6880 w6882 w6884 w6883 w6886 w6888 w6887 w6889 w6893 w6892 a6894 a6895 ⊢) <;> (try simp (disch := omega) only [zb] at u5318 xq2 h5319 xq12 h5332 xq14 a5352 u5353 h5354 h5355 h5356 h6592 h6847 w6848 w6849 r6850 r6851 r6852 h6853 h6874 h6875 w6876 w6879 w6878 w6880 w6882 w6884 w6883 w6886 w6888 w6887 w6889 w6893 w6892 a6894 a6895 ⊢) <;> first | omega | ((try simp (disch := omega) only [zb] at u5318 xq2 h5319 xq12 h5332 xq14 a5352 u5353 h5354 h5355 h5356 h6592 h6847 w6848 w6849 r6850 r6851 r6852 h6853 h6874 h6875 w6876 w6879 w6878 w6880 w6882 w6884 w6883 w6886 w6888 w6887 w6889 w6893 w6892 a6894 a6895 ⊢) <;> omega))⟩
                    · unfold fX9_pair_250
                      refine sw_ite (fun h6896 => ?_) (fun h6896 => ?_)
                      · unfold fX9_pair_264
                        refine sw_ite (fun h6897 => ?_) (fun h6897 => ?_)
                        · have w6898 : mm_I s11 p0 0 = mm_I q2.2 p0 0 := by rw [← es11]; exact rd_k t_p0 tq5 (by decide)
                          have w6901 : rdA s11 p0 9 1 = mm_I s11 q17 ((1 : Int32)).toNatClampNeg := rdA_eq eq17
                          have w6900 : rdA s11 p0 9 1 = rdA q2.2 p0 9 1 := by rw [← es11]; exact rdA_k cq2 t_p0 (κ' := 59) rfl tq5 (by decide)
                          have w6902 := rdA_fr (k := 9) (j := 1) gq2 c0 t_p0 (κ' := 59) rfl rfl rfl
                          have w6904 : rdA s11 p0 10 1 = rdA q2.2 p0 10 1 := by rw [← es11]; exact rdA_j (by decide)
                          have w6906 : rdA q2.2 p0 10 1 = mm_I q2.2 q5 ((1 : Int32)).toNatClampNeg := rdA_eq eq5
                          have w6905 := rdA_fr (k := 10) (j := 1) gq2 c0 t_p0 (κ' := 60) rfl rfl rfl
                          have w6908 : rdA s11 p0 10 0 = -1 := by rw [← es11]; exact rdA_self eq5
                          have w6910 : rdA s11 p0 9 0 = mm_I s11 q17 ((0 : Int32)).toNatClampNeg := rdA_eq eq17
                          have w6909 : rdA s11 p0 9 0 = rdA q2.2 p0 9 0 := by rw [← es11]; exact rdA_k cq2 t_p0 (κ' := 59) rfl tq5 (by decide)
                          have w6911 := rdA_fr (k := 9) (j := 0) gq2 c0 t_p0 (κ' := 59) rfl rfl rfl
                          have w6915 : rdA q2.2 p0 10 0 = mm_I q2.2 q5 ((0 : Int32)).toNatClampNeg := rdA_eq eq5
                          have w6914 := rdA_fr (k := 10) (j := 0) gq2 c0 t_p0 (κ' := 60) rfl rfl rfl
                          have a6916 := zi_and p3 127 (by decide)
                          have a6917 := zi_and p2 8 (by decide)
                          exact sw_some ⟨cs11, fs11, (by (try simp only [zp, zo, zq] at u5318 xq2 h5319 xq12 h5332 xq14 a5352 u5353 h5354 h5355 h5356 h6592 h6847 w6848 w6849 r6850 r6851 r6852 h6853 h6874 h6875 h6896 h6897 w6898 w6901 w6900 w6902 w6904 w6906 w6905 w6908 w6910 w6909 w6911 w6915 w6914 a6916 a6917 ⊢) <;> (try simp only [zz, Int32.reduceToInt, ne_eq] at u5318 xq2 h5319 xq12 h5332 xq14 a5352 u5353 h5354 h5355 h5356 h6592 h6847 w6848 w6849 r6850 r6851 r6852 h6853 h6874 h6875 h6896 h6897 w6898 w6901 w6900 w6902 w6904 w6906 w6905 w6908 w6910 w6909 w6911 w6915 w6914 a6916 a6917 ⊢) <;> (try simp (disch := omega) only [zb] at u5318 xq2 h5319 xq12 h5332 xq14 a5352 u5353 h5354 h5355 h5356 h6592 h6847 w6848 w6849 r6850 r6851 r6852 h6853 h6874 h6875 h6896 h6897 w6898 w6901 w6900 w6902 w6904 w6906 w6905 w6908 w6910 w6909 w6911 w6915 w6914 a6916 a6917 ⊢) <;> first | omega | ((try simp (disch := omega) only [zb] at u5318 xq2 h5319 xq12 h5332 xq14 a5352 u5353 h5354 h5355 h5356 h6592 h6847 w6848 w6849 r6850 r6851 r6852 h6853 h6874 h6875 h6896 h6897 w6898 w6901 w6900 w6902 w6904 w6906 w6905 w6908 w6910 w6909 w6911 w6915 w6914 a6916 a6917 ⊢) <;> omega))⟩
                        · refine sw_sh (ci_sh cs11 t_p0 rfl) ?_
                          refine sw_on (sX9_put cs11 t_p0 (by (try simp only [zp, zo, zq] at u5318 xq2 h5319 xq12 h5332 xq14 a5352 u5353 h5354 h5355 h5356 h6592 h6847 w6848 w6849 r6850 r6851 r6852 h6853 h6874 h6875 h6896 h6897 ⊢) <;> (try simp only [zz, Int32.reduceToInt, ne_eq] at u5318 xq2 h5319 xq12 h5332 xq14 a5352 u5353 h5354 h5355 h5356 h6592 h6847 w6848 w6849 r6850 r6851 r6852 h6853 h6874 h6875 h6896 h6897 ⊢) <;> (try simp (disch := omega) only [zb] at u5318 xq2 h5319 xq12 h5332 xq14 a5352 u5353 h5354 h5355 h5356 h6592 h6847 w6848 w6849 r6850 r6851 r6852 h6853 h6874 h6875 h6896 h6897 ⊢) <;> first | omega | ((try simp (disch := omega) only [zb] at u5318 xq2 h5319 xq12 h5332 xq14 a5352 u5353 h5354 h5355 h5356 h6592 h6847 w6848 w6849 r6850 r6851 r6852 h6853 h6874 h6875 h6896 h6897 ⊢) <;> omega)) ) ?_
                          intro q28 hqq28
                          obtain ⟨cq28, gq28, xq28⟩ := hqq28
                          have fq28 := fr_trans fs11 gq28 rfl
                          have w6918 := (gq28.2.2 _ _ t_p0 0 rfl).1
                          have w6919 : mm_I s11 p0 0 = mm_I q2.2 p0 0 := by rw [← es11]; exact rd_k t_p0 tq5 (by decide)
                          have w6921 := rdA_fr (k := 9) (j := 1) gq28 cs11 t_p0 (κ' := 59) rfl rfl rfl
                          have w6923 : rdA s11 p0 9 1 = mm_I s11 q17 ((1 : Int32)).toNatClampNeg := rdA_eq eq17
                          have w6922 : rdA s11 p0 9 1 = rdA q2.2 p0 9 1 := by rw [← es11]; exact rdA_k cq2 t_p0 (κ' := 59) rfl tq5 (by decide)
                          have w6924 := rdA_fr (k := 9) (j := 1) gq2 c0 t_p0 (κ' := 59) rfl rfl rfl
                          have w6926 := rdA_fr (k := 10) (j := 1) gq28 cs11 t_p0 (κ' := 60) rfl rfl rfl
                          have w6927 : rdA s11 p0 10 1 = rdA q2.2 p0 10 1 := by rw [← es11]; exact rdA_j (by decide)
                          have w6929 : rdA q2.2 p0 10 1 = mm_I q2.2 q5 ((1 : Int32)).toNatClampNeg := rdA_eq eq5
                          have w6928 := rdA_fr (k := 10) (j := 1) gq2 c0 t_p0 (κ' := 60) rfl rfl rfl
                          have w6931 := rdA_fr (k := 10) (j := 0) gq28 cs11 t_p0 (κ' := 60) rfl rfl rfl
                          have w6932 : rdA s11 p0 10 0 = -1 := by rw [← es11]; exact rdA_self eq5
                          have w6933 := rdA_fr (k := 9) (j := 0) gq28 cs11 t_p0 (κ' := 59) rfl rfl rfl
                          have w6935 : rdA s11 p0 9 0 = mm_I s11 q17 ((0 : Int32)).toNatClampNeg := rdA_eq eq17
                          have w6934 : rdA s11 p0 9 0 = rdA q2.2 p0 9 0 := by rw [← es11]; exact rdA_k cq2 t_p0 (κ' := 59) rfl tq5 (by decide)
                          have w6936 := rdA_fr (k := 9) (j := 0) gq2 c0 t_p0 (κ' := 59) rfl rfl rfl
                          have w6940 : rdA q2.2 p0 10 0 = mm_I q2.2 q5 ((0 : Int32)).toNatClampNeg := rdA_eq eq5
                          have w6939 := rdA_fr (k := 10) (j := 0) gq2 c0 t_p0 (κ' := 60) rfl rfl rfl
                          have a6941 := zi_and p3 127 (by decide)
                          have a6942 := zi_and p2 8 (by decide)
                          exact sw_some ⟨cq28, fq28, (by (try simp only [zp, zo, zq] at u5318 xq2 h5319 xq12 h5332 xq14 a5352 u5353 h5354 h5355 h5356 h6592 h6847 w6848 w6849 r6850 r6851 r6852 h6853 h6874 h6875 h6896 h6897 w6918 w6919 w6921 w6923 w6922 w6924 w6926 w6927 w6929 w6928 w6931 w6932 w6933 w6935 w6934 w6936 w6940 w6939 a6941 a6942 ⊢) <;> (try simp only [zz, Int32.reduceToInt, ne_eq] at u5318 xq2 h5319 xq12 h5332 xq14 a5352 u5353 h5354 h5355 h5356 h6592 h6847 w6848 w6849 r6850 r6851 r6852 h6853 h6874 h6875 h6896 h6897 w6918 w6919 w6921 w6923 w6922 w6924 w6926 w6927 w6929 w6928 w6931 w6932 w6933 w6935 w6934 w6936 w6940 w6939 a6941 a6942 ⊢) <;> (try simp (disch := omega) only [zb] at u5318 xq2 h5319 xq12 h5332 xq14 a5352 u5353 h5354 h5355 h5356 h6592 h6847 w6848 w6849 r6850 r6851 r6852 h6853 h6874 h6875 h6896 h6897 w6918 w6919 w6921 w6923 w6922 w6924 w6926 w6927 w6929 w6928 w6931 w6932 w6933 w6935 w6934 w6936 w6940 w6939 a6941 a6942 ⊢) <;> first | omega | ((try simp (disch := omega) only [zb] at u5318 xq2 h5319 xq12 h5332 xq14 a5352 u5353 h5354 h5355 h5356 h6592 h6847 w6848 w6849 r6850 r6851 r6852 h6853 h6874 h6875 h6896 h6897 w6918 w6919 w6921 w6923 w6922 w6924 w6926 w6927 w6929 w6928 w6931 w6932 w6933 w6935 w6934 w6936 w6940 w6939 a6941 a6942 ⊢) <;> omega))⟩
                      · refine sw_sh (ci_sh cs11 t_p0 rfl) ?_
                        refine sw_on (sX9_put cs11 t_p0 (by (try simp only [zp, zo, zq] at u5318 xq2 h5319 xq12 h5332 xq14 a5352 u5353 h5354 h5355 h5356 h6592 h6847 w6848 w6849 r6850 r6851 r6852 h6853 h6874 h6875 h6896 ⊢) <;> (try simp only [zz, Int32.reduceToInt, ne_eq] at u5318 xq2 h5319 xq12 h5332 xq14 a5352 u5353 h5354 h5355 h5356 h6592 h6847 w6848 w6849 r6850 r6851 r6852 h6853 h6874 h6875 h6896 ⊢) <;> (try simp (disch := omega) only [zb] at u5318 xq2 h5319 xq12 h5332 xq14 a5352 u5353 h5354 h5355 h5356 h6592 h6847 w6848 w6849 r6850 r6851 r6852 h6853 h6874 h6875 h6896 ⊢) <;> first | omega | ((try simp (disch := omega) only [zb] at u5318 xq2 h5319 xq12 h5332 xq14 a5352 u5353 h5354 h5355 h5356 h6592 h6847 w6848 w6849 r6850 r6851 r6852 h6853 h6874 h6875 h6896 ⊢) <;> omega)) ) ?_
                        intro q30 hqq30
                        obtain ⟨cq30, gq30, xq30⟩ := hqq30
                        have fq30 := fr_trans fs11 gq30 rfl
                        unfold fX9_pair_264
                        refine sw_ite (fun h6943 => ?_) (fun h6943 => ?_)
                        · have w6944 := (gq30.2.2 _ _ t_p0 0 rfl).1
                          have w6945 : mm_I s11 p0 0 = mm_I q2.2 p0 0 := by rw [← es11]; exact rd_k t_p0 tq5 (by decide)
                          have w6947 := rdA_fr (k := 9) (j := 1) gq30 cs11 t_p0 (κ' := 59) rfl rfl rfl
                          have w6949 : rdA s11 p0 9 1 = mm_I s11 q17 ((1 : Int32)).toNatClampNeg := rdA_eq eq17
                          have w6948 : rdA s11 p0 9 1 = rdA q2.2 p0 9 1 := by rw [← es11]; exact rdA_k cq2 t_p0 (κ' := 59) rfl tq5 (by decide)
                          have w6950 := rdA_fr (k := 9) (j := 1) gq2 c0 t_p0 (κ' := 59) rfl rfl rfl
                          have w6952 := rdA_fr (k := 10) (j := 1) gq30 cs11 t_p0 (κ' := 60) rfl rfl rfl
                          have w6953 : rdA s11 p0 10 1 = rdA q2.2 p0 10 1 := by rw [← es11]; exact rdA_j (by decide)
                          have w6955 : rdA q2.2 p0 10 1 = mm_I q2.2 q5 ((1 : Int32)).toNatClampNeg := rdA_eq eq5
                          have w6954 := rdA_fr (k := 10) (j := 1) gq2 c0 t_p0 (κ' := 60) rfl rfl rfl
                          have w6957 := rdA_fr (k := 10) (j := 0) gq30 cs11 t_p0 (κ' := 60) rfl rfl rfl
                          have w6958 : rdA s11 p0 10 0 = -1 := by rw [← es11]; exact rdA_self eq5
                          have w6959 := rdA_fr (k := 9) (j := 0) gq30 cs11 t_p0 (κ' := 59) rfl rfl rfl
                          have w6961 : rdA s11 p0 9 0 = mm_I s11 q17 ((0 : Int32)).toNatClampNeg := rdA_eq eq17
                          have w6960 : rdA s11 p0 9 0 = rdA q2.2 p0 9 0 := by rw [← es11]; exact rdA_k cq2 t_p0 (κ' := 59) rfl tq5 (by decide)
                          have w6962 := rdA_fr (k := 9) (j := 0) gq2 c0 t_p0 (κ' := 59) rfl rfl rfl
                          have w6966 : rdA q2.2 p0 10 0 = mm_I q2.2 q5 ((0 : Int32)).toNatClampNeg := rdA_eq eq5
                          have w6965 := rdA_fr (k := 10) (j := 0) gq2 c0 t_p0 (κ' := 60) rfl rfl rfl
                          have a6967 := zi_and p3 127 (by decide)
                          have a6968 := zi_and p2 8 (by decide)
                          exact sw_some ⟨cq30, fq30, (by (try simp only [zp, zo, zq] at u5318 xq2 h5319 xq12 h5332 xq14 a5352 u5353 h5354 h5355 h5356 h6592 h6847 w6848 w6849 r6850 r6851 r6852 h6853 h6874 h6875 h6896 h6943 w6944 w6945 w6947 w6949 w6948 w6950 w6952 w6953 w6955 w6954 w6957 w6958 w6959 w6961 w6960 w6962 w6966 w6965 a6967 a6968 ⊢) <;> (try simp only [zz, Int32.reduceToInt, ne_eq] at u5318 xq2 h5319 xq12 h5332 xq14 a5352 u5353 h5354 h5355 h5356 h6592 h6847 w6848 w6849 r6850 r6851 r6852 h6853 h6874 h6875 h6896 h6943 w6944 w6945 w6947 w6949 w6948 w6950 w6952 w6953 w6955 w6954 w6957 w6958 w6959 w6961 w6960 w6962 w6966 w6965 a6967 a6968 ⊢) <;> (try simp (disch := omega) only [zb] at u5318 xq2 h5319 xq12 h5332 xq14 a5352 u5353 h5354 h5355 h5356 h6592 h6847 w6848 w6849 r6850 r6851 r6852 h6853 h6874 h6875 h6896 h6943 w6944 w6945 w6947 w6949 w6948 w6950 w6952 w6953 w6955 w6954 w6957 w6958 w6959 w6961 w6960 w6962 w6966 w6965 a6967 a6968 ⊢) <;> first | omega | ((try simp (disch := omega) only [zb] at u5318 xq2 h5319 xq12 h5332 xq14 a5352 u5353 h5354 h5355 h5356 h6592 h6847 w6848 w6849 r6850 r6851 r6852 h6853 h6874 h6875 h6896 h6943 w6944 w6945 w6947 w6949 w6948 w6950 w6952 w6953 w6955 w6954 w6957 w6958 w6959 w6961 w6960 w6962 w6966 w6965 a6967 a6968 ⊢) <;> omega))⟩
                        · refine sw_sh (ci_sh cq30 t_p0 rfl) ?_
                          refine sw_on (sX9_put cq30 t_p0 (by (try simp only [zp, zo, zq] at u5318 xq2 h5319 xq12 h5332 xq14 a5352 u5353 h5354 h5355 h5356 h6592 h6847 w6848 w6849 r6850 r6851 r6852 h6853 h6874 h6875 h6896 h6943 ⊢) <;> (try simp only [zz, Int32.reduceToInt, ne_eq] at u5318 xq2 h5319 xq12 h5332 xq14 a5352 u5353 h5354 h5355 h5356 h6592 h6847 w6848 w6849 r6850 r6851 r6852 h6853 h6874 h6875 h6896 h6943 ⊢) <;> (try simp (disch := omega) only [zb] at u5318 xq2 h5319 xq12 h5332 xq14 a5352 u5353 h5354 h5355 h5356 h6592 h6847 w6848 w6849 r6850 r6851 r6852 h6853 h6874 h6875 h6896 h6943 ⊢) <;> first | omega | ((try simp (disch := omega) only [zb] at u5318 xq2 h5319 xq12 h5332 xq14 a5352 u5353 h5354 h5355 h5356 h6592 h6847 w6848 w6849 r6850 r6851 r6852 h6853 h6874 h6875 h6896 h6943 ⊢) <;> omega)) ) ?_
                          intro q28 hqq28
                          obtain ⟨cq28, gq28, xq28⟩ := hqq28
                          have fq28 := fr_trans fq30 gq28 rfl
                          have w6969 := (gq28.2.2 _ _ t_p0 0 rfl).1
                          have w6970 := (gq30.2.2 _ _ t_p0 0 rfl).1
                          have w6971 : mm_I s11 p0 0 = mm_I q2.2 p0 0 := by rw [← es11]; exact rd_k t_p0 tq5 (by decide)
                          have w6973 := rdA_fr (k := 9) (j := 1) gq28 cq30 t_p0 (κ' := 59) rfl rfl rfl
                          have w6974 := rdA_fr (k := 9) (j := 1) gq30 cs11 t_p0 (κ' := 59) rfl rfl rfl
                          have w6976 : rdA s11 p0 9 1 = mm_I s11 q17 ((1 : Int32)).toNatClampNeg := rdA_eq eq17
                          have w6975 : rdA s11 p0 9 1 = rdA q2.2 p0 9 1 := by rw [← es11]; exact rdA_k cq2 t_p0 (κ' := 59) rfl tq5 (by decide)
                          have w6977 := rdA_fr (k := 9) (j := 1) gq2 c0 t_p0 (κ' := 59) rfl rfl rfl
                          have w6979 := rdA_fr (k := 10) (j := 1) gq28 cq30 t_p0 (κ' := 60) rfl rfl rfl
                          have w6980 := rdA_fr (k := 10) (j := 1) gq30 cs11 t_p0 (κ' := 60) rfl rfl rfl
                          have w6981 : rdA s11 p0 10 1 = rdA q2.2 p0 10 1 := by rw [← es11]; exact rdA_j (by decide)
                          have w6983 : rdA q2.2 p0 10 1 = mm_I q2.2 q5 ((1 : Int32)).toNatClampNeg := rdA_eq eq5
                          have w6982 := rdA_fr (k := 10) (j := 1) gq2 c0 t_p0 (κ' := 60) rfl rfl rfl
                          have w6985 := rdA_fr (k := 10) (j := 0) gq28 cq30 t_p0 (κ' := 60) rfl rfl rfl
                          have w6986 := rdA_fr (k := 10) (j := 0) gq30 cs11 t_p0 (κ' := 60) rfl rfl rfl
                          have w6987 : rdA s11 p0 10 0 = -1 := by rw [← es11]; exact rdA_self eq5
                          have w6988 := rdA_fr (k := 9) (j := 0) gq28 cq30 t_p0 (κ' := 59) rfl rfl rfl
                          have w6989 := rdA_fr (k := 9) (j := 0) gq30 cs11 t_p0 (κ' := 59) rfl rfl rfl
                          have w6991 : rdA s11 p0 9 0 = mm_I s11 q17 ((0 : Int32)).toNatClampNeg := rdA_eq eq17
                          have w6990 : rdA s11 p0 9 0 = rdA q2.2 p0 9 0 := by rw [← es11]; exact rdA_k cq2 t_p0 (κ' := 59) rfl tq5 (by decide)
                          have w6992 := rdA_fr (k := 9) (j := 0) gq2 c0 t_p0 (κ' := 59) rfl rfl rfl
                          have w6996 : rdA q2.2 p0 10 0 = mm_I q2.2 q5 ((0 : Int32)).toNatClampNeg := rdA_eq eq5
                          have w6995 := rdA_fr (k := 10) (j := 0) gq2 c0 t_p0 (κ' := 60) rfl rfl rfl
                          have a6997 := zi_and p3 127 (by decide)
                          have a6998 := zi_and p2 8 (by decide)
                          exact sw_some ⟨cq28, fq28, (by (try simp only [zp, zo, zq] at u5318 xq2 h5319 xq12 h5332 xq14 a5352 u5353 h5354 h5355 h5356 h6592 h6847 w6848 w6849 r6850 r6851 r6852 h6853 h6874 h6875 h6896 h6943 w6969 w6970 w6971 w6973 w6974 w6976 w6975 w6977 w6979 w6980 w6981 w6983 w6982 w6985 w6986 w6987 w6988 w6989 w6991 w6990 w6992 w6996 w6995 a6997 a6998 ⊢) <;> (try simp only [zz, Int32.reduceToInt, ne_eq] at u5318 xq2 h5319 xq12 h5332 xq14 a5352 u5353 h5354 h5355 h5356 h6592 h6847 w6848 w6849 r6850 r6851 r6852 h6853 h6874 h6875 h6896 h6943 w6969 w6970 w6971 w6973 w6974 w6976 w6975 w6977 w6979 w6980 w6981 w6983 w6982 w6985 w6986 w6987 w6988 w6989 w6991 w6990 w6992 w6996 w6995 a6997 a6998 ⊢) <;> (try simp (disch := omega) only [zb] at u5318 xq2 h5319 xq12 h5332 xq14 a5352 u5353 h5354 h5355 h5356 h6592 h6847 w6848 w6849 r6850 r6851 r6852 h6853 h6874 h6875 h6896 h6943 w6969 w6970 w6971 w6973 w6974 w6976 w6975 w6977 w6979 w6980 w6981 w6983 w6982 w6985 w6986 w6987 w6988 w6989 w6991 w6990 w6992 w6996 w6995 a6997 a6998 ⊢) <;> first | omega | ((try simp (disch := omega) only [zb] at u5318 xq2 h5319 xq12 h5332 xq14 a5352 u5353 h5354 h5355 h5356 h6592 h6847 w6848 w6849 r6850 r6851 r6852 h6853 h6874 h6875 h6896 h6943 w6969 w6970 w6971 w6973 w6974 w6976 w6975 w6977 w6979 w6980 w6981 w6983 w6982 w6985 w6986 w6987 w6988 w6989 w6991 w6990 w6992 w6996 w6995 a6997 a6998 ⊢) <;> omega))⟩
                  · unfold fX9_pair_250
                    refine sw_ite (fun h6999 => ?_) (fun h6999 => ?_)
                    · unfold fX9_pair_264
                      refine sw_ite (fun h7000 => ?_) (fun h7000 => ?_)
                      · have w7001 : mm_I s11 p0 0 = mm_I q2.2 p0 0 := by rw [← es11]; exact rd_k t_p0 tq5 (by decide)
                        have w7004 : rdA s11 p0 9 1 = mm_I s11 q17 ((1 : Int32)).toNatClampNeg := rdA_eq eq17
                        have w7003 : rdA s11 p0 9 1 = rdA q2.2 p0 9 1 := by rw [← es11]; exact rdA_k cq2 t_p0 (κ' := 59) rfl tq5 (by decide)
                        have w7005 := rdA_fr (k := 9) (j := 1) gq2 c0 t_p0 (κ' := 59) rfl rfl rfl
                        have w7007 : rdA s11 p0 10 1 = rdA q2.2 p0 10 1 := by rw [← es11]; exact rdA_j (by decide)
                        have w7009 : rdA q2.2 p0 10 1 = mm_I q2.2 q5 ((1 : Int32)).toNatClampNeg := rdA_eq eq5
                        have w7008 := rdA_fr (k := 10) (j := 1) gq2 c0 t_p0 (κ' := 60) rfl rfl rfl
                        have w7011 : rdA s11 p0 10 0 = -1 := by rw [← es11]; exact rdA_self eq5
                        have w7013 : rdA s11 p0 9 0 = mm_I s11 q17 ((0 : Int32)).toNatClampNeg := rdA_eq eq17
                        have w7012 : rdA s11 p0 9 0 = rdA q2.2 p0 9 0 := by rw [← es11]; exact rdA_k cq2 t_p0 (κ' := 59) rfl tq5 (by decide)
                        have w7014 := rdA_fr (k := 9) (j := 0) gq2 c0 t_p0 (κ' := 59) rfl rfl rfl
                        have w7018 : rdA q2.2 p0 10 0 = mm_I q2.2 q5 ((0 : Int32)).toNatClampNeg := rdA_eq eq5
                        have w7017 := rdA_fr (k := 10) (j := 0) gq2 c0 t_p0 (κ' := 60) rfl rfl rfl
                        have a7019 := zi_and p3 127 (by decide)
                        have a7020 := zi_and p2 8 (by decide)
                        exact sw_some ⟨cs11, fs11, (by (try simp only [zp, zo, zq] at u5318 xq2 h5319 xq12 h5332 xq14 a5352 u5353 h5354 h5355 h5356 h6592 h6847 w6848 w6849 r6850 r6851 r6852 h6853 h6874 h6999 h7000 w7001 w7004 w7003 w7005 w7007 w7009 w7008 w7011 w7013 w7012 w7014 w7018 w7017 a7019 a7020 ⊢) <;> (try simp only [zz, Int32.reduceToInt, ne_eq] at u5318 xq2 h5319 xq12 h5332 xq14 a5352 u5353 h5354 h5355 h5356 h6592 h6847 w6848 w6849 r6850 r6851 r6852 h6853 h6874 h6999 h7000 w7001 w7004 w7003 w7005 w7007 w7009 w7008 w7011 w7013 w7012 w7014 w7018 w7017 a7019 a7020 ⊢) <;> (try simp (disch := omega) only [zb] at u5318 xq2 h5319 xq12 h5332 xq14 a5352 u5353 h5354 h5355 h5356 h6592 h6847 w6848 w6849 r6850 r6851 r6852 h6853 h6874 h6999 h7000 w7001 w7004 w7003 w7005 w7007 w7009 w7008 w7011 w7013 w7012 w7014 w7018 w7017 a7019 a7020 ⊢) <;> first | omega | ((try simp (disch := omega) only [zb] at u5318 xq2 h5319 xq12 h5332 xq14 a5352 u5353 h5354 h5355 h5356 h6592 h6847 w6848 w6849 r6850 r6851 r6852 h6853 h6874 h6999 h7000 w7001 w7004 w7003 w7005 w7007 w7009 w7008 w7011 w7013 w7012 w7014 w7018 w7017 a7019 a7020 ⊢) <;> omega))⟩
                      · refine sw_sh (ci_sh cs11 t_p0 rfl) ?_
                        refine sw_on (sX9_put cs11 t_p0 (by (try simp only [zp, zo, zq] at u5318 xq2 h5319 xq12 h5332 xq14 a5352 u5353 h5354 h5355 h5356 h6592 h6847 w6848 w6849 r6850 r6851 r6852 h6853 h6874 h6999 h7000 ⊢) <;> (try simp only [zz, Int32.reduceToInt, ne_eq] at u5318 xq2 h5319 xq12 h5332 xq14 a5352 u5353 h5354 h5355 h5356 h6592 h6847 w6848 w6849 r6850 r6851 r6852 h6853 h6874 h6999 h7000 ⊢) <;> (try simp (disch := omega) only [zb] at u5318 xq2 h5319 xq12 h5332 xq14 a5352 u5353 h5354 h5355 h5356 h6592 h6847 w6848 w6849 r6850 r6851 r6852 h6853 h6874 h6999 h7000 ⊢) <;> first | omega | ((try simp (disch := omega) only [zb] at u5318 xq2 h5319 xq12 h5332 xq14 a5352 u5353 h5354 h5355 h5356 h6592 h6847 w6848 w6849 r6850 r6851 r6852 h6853 h6874 h6999 h7000 ⊢) <;> omega)) ) ?_
                        intro q28 hqq28
                        obtain ⟨cq28, gq28, xq28⟩ := hqq28
                        have fq28 := fr_trans fs11 gq28 rfl
                        have w7021 := (gq28.2.2 _ _ t_p0 0 rfl).1
                        have w7022 : mm_I s11 p0 0 = mm_I q2.2 p0 0 := by rw [← es11]; exact rd_k t_p0 tq5 (by decide)
                        have w7024 := rdA_fr (k := 9) (j := 1) gq28 cs11 t_p0 (κ' := 59) rfl rfl rfl
                        have w7026 : rdA s11 p0 9 1 = mm_I s11 q17 ((1 : Int32)).toNatClampNeg := rdA_eq eq17
                        have w7025 : rdA s11 p0 9 1 = rdA q2.2 p0 9 1 := by rw [← es11]; exact rdA_k cq2 t_p0 (κ' := 59) rfl tq5 (by decide)
                        have w7027 := rdA_fr (k := 9) (j := 1) gq2 c0 t_p0 (κ' := 59) rfl rfl rfl
                        have w7029 := rdA_fr (k := 10) (j := 1) gq28 cs11 t_p0 (κ' := 60) rfl rfl rfl
                        have w7030 : rdA s11 p0 10 1 = rdA q2.2 p0 10 1 := by rw [← es11]; exact rdA_j (by decide)
                        have w7032 : rdA q2.2 p0 10 1 = mm_I q2.2 q5 ((1 : Int32)).toNatClampNeg := rdA_eq eq5
                        have w7031 := rdA_fr (k := 10) (j := 1) gq2 c0 t_p0 (κ' := 60) rfl rfl rfl
                        have w7034 := rdA_fr (k := 10) (j := 0) gq28 cs11 t_p0 (κ' := 60) rfl rfl rfl
                        have w7035 : rdA s11 p0 10 0 = -1 := by rw [← es11]; exact rdA_self eq5
                        have w7036 := rdA_fr (k := 9) (j := 0) gq28 cs11 t_p0 (κ' := 59) rfl rfl rfl
                        have w7038 : rdA s11 p0 9 0 = mm_I s11 q17 ((0 : Int32)).toNatClampNeg := rdA_eq eq17
                        have w7037 : rdA s11 p0 9 0 = rdA q2.2 p0 9 0 := by rw [← es11]; exact rdA_k cq2 t_p0 (κ' := 59) rfl tq5 (by decide)
                        have w7039 := rdA_fr (k := 9) (j := 0) gq2 c0 t_p0 (κ' := 59) rfl rfl rfl
                        have w7043 : rdA q2.2 p0 10 0 = mm_I q2.2 q5 ((0 : Int32)).toNatClampNeg := rdA_eq eq5
                        have w7042 := rdA_fr (k := 10) (j := 0) gq2 c0 t_p0 (κ' := 60) rfl rfl rfl
                        have a7044 := zi_and p3 127 (by decide)
                        have a7045 := zi_and p2 8 (by decide)
                        exact sw_some ⟨cq28, fq28, (by (try simp only [zp, zo, zq] at u5318 xq2 h5319 xq12 h5332 xq14 a5352 u5353 h5354 h5355 h5356 h6592 h6847 w6848 w6849 r6850 r6851 r6852 h6853 h6874 h6999 h7000 w7021 w7022 w7024 w7026 w7025 w7027 w7029 w7030 w7032 w7031 w7034 w7035 w7036 w7038 w7037 w7039 w7043 w7042 a7044 a7045 ⊢) <;> (try simp only [zz, Int32.reduceToInt, ne_eq] at u5318 xq2 h5319 xq12 h5332 xq14 a5352 u5353 h5354 h5355 h5356 h6592 h6847 w6848 w6849 r6850 r6851 r6852 h6853 h6874 h6999 h7000 w7021 w7022 w7024 w7026 w7025 w7027 w7029 w7030 w7032 w7031 w7034 w7035 w7036 w7038 w7037 w7039 w7043 w7042 a7044 a7045 ⊢) <;> (try simp (disch := omega) only [zb] at u5318 xq2 h5319 xq12 h5332 xq14 a5352 u5353 h5354 h5355 h5356 h6592 h6847 w6848 w6849 r6850 r6851 r6852 h6853 h6874 h6999 h7000 w7021 w7022 w7024 w7026 w7025 w7027 w7029 w7030 w7032 w7031 w7034 w7035 w7036 w7038 w7037 w7039 w7043 w7042 a7044 a7045 ⊢) <;> first | omega | ((try simp (disch := omega) only [zb] at u5318 xq2 h5319 xq12 h5332 xq14 a5352 u5353 h5354 h5355 h5356 h6592 h6847 w6848 w6849 r6850 r6851 r6852 h6853 h6874 h6999 h7000 w7021 w7022 w7024 w7026 w7025 w7027 w7029 w7030 w7032 w7031 w7034 w7035 w7036 w7038 w7037 w7039 w7043 w7042 a7044 a7045 ⊢) <;> omega))⟩
                    · refine sw_sh (ci_sh cs11 t_p0 rfl) ?_
                      refine sw_on (sX9_put cs11 t_p0 (by (try simp only [zp, zo, zq] at u5318 xq2 h5319 xq12 h5332 xq14 a5352 u5353 h5354 h5355 h5356 h6592 h6847 w6848 w6849 r6850 r6851 r6852 h6853 h6874 h6999 ⊢) <;> (try simp only [zz, Int32.reduceToInt, ne_eq] at u5318 xq2 h5319 xq12 h5332 xq14 a5352 u5353 h5354 h5355 h5356 h6592 h6847 w6848 w6849 r6850 r6851 r6852 h6853 h6874 h6999 ⊢) <;> (try simp (disch := omega) only [zb] at u5318 xq2 h5319 xq12 h5332 xq14 a5352 u5353 h5354 h5355 h5356 h6592 h6847 w6848 w6849 r6850 r6851 r6852 h6853 h6874 h6999 ⊢) <;> first | omega | ((try simp (disch := omega) only [zb] at u5318 xq2 h5319 xq12 h5332 xq14 a5352 u5353 h5354 h5355 h5356 h6592 h6847 w6848 w6849 r6850 r6851 r6852 h6853 h6874 h6999 ⊢) <;> omega)) ) ?_
                      intro q30 hqq30
                      obtain ⟨cq30, gq30, xq30⟩ := hqq30
                      have fq30 := fr_trans fs11 gq30 rfl
                      unfold fX9_pair_264
                      refine sw_ite (fun h7046 => ?_) (fun h7046 => ?_)
                      · have w7047 := (gq30.2.2 _ _ t_p0 0 rfl).1
                        have w7048 : mm_I s11 p0 0 = mm_I q2.2 p0 0 := by rw [← es11]; exact rd_k t_p0 tq5 (by decide)
                        have w7050 := rdA_fr (k := 9) (j := 1) gq30 cs11 t_p0 (κ' := 59) rfl rfl rfl
                        have w7052 : rdA s11 p0 9 1 = mm_I s11 q17 ((1 : Int32)).toNatClampNeg := rdA_eq eq17
                        have w7051 : rdA s11 p0 9 1 = rdA q2.2 p0 9 1 := by rw [← es11]; exact rdA_k cq2 t_p0 (κ' := 59) rfl tq5 (by decide)
                        have w7053 := rdA_fr (k := 9) (j := 1) gq2 c0 t_p0 (κ' := 59) rfl rfl rfl
                        have w7055 := rdA_fr (k := 10) (j := 1) gq30 cs11 t_p0 (κ' := 60) rfl rfl rfl
                        have w7056 : rdA s11 p0 10 1 = rdA q2.2 p0 10 1 := by rw [← es11]; exact rdA_j (by decide)
                        have w7058 : rdA q2.2 p0 10 1 = mm_I q2.2 q5 ((1 : Int32)).toNatClampNeg := rdA_eq eq5
                        have w7057 := rdA_fr (k := 10) (j := 1) gq2 c0 t_p0 (κ' := 60) rfl rfl rfl
                        have w7060 := rdA_fr (k := 10) (j := 0) gq30 cs11 t_p0 (κ' := 60) rfl rfl rfl
                        have w7061 : rdA s11 p0 10 0 = -1 := by rw [← es11]; exact rdA_self eq5
                        have w7062 := rdA_fr (k := 9) (j := 0) gq30 cs11 t_p0 (κ' := 59) rfl rfl rfl
                        have w7064 : rdA s11 p0 9 0 = mm_I s11 q17 ((0 : Int32)).toNatClampNeg := rdA_eq eq17
                        have w7063 : rdA s11 p0 9 0 = rdA q2.2 p0 9 0 := by rw [← es11]; exact rdA_k cq2 t_p0 (κ' := 59) rfl tq5 (by decide)
                        have w7065 := rdA_fr (k := 9) (j := 0) gq2 c0 t_p0 (κ' := 59) rfl rfl rfl
                        have w7069 : rdA q2.2 p0 10 0 = mm_I q2.2 q5 ((0 : Int32)).toNatClampNeg := rdA_eq eq5
                        have w7068 := rdA_fr (k := 10) (j := 0) gq2 c0 t_p0 (κ' := 60) rfl rfl rfl
                        have a7070 := zi_and p3 127 (by decide)
                        have a7071 := zi_and p2 8 (by decide)
                        exact sw_some ⟨cq30, fq30, (by (try simp only [zp, zo, zq] at u5318 xq2 h5319 xq12 h5332 xq14 a5352 u5353 h5354 h5355 h5356 h6592 h6847 w6848 w6849 r6850 r6851 r6852 h6853 h6874 h6999 h7046 w7047 w7048 w7050 w7052 w7051 w7053 w7055 w7056 w7058 w7057 w7060 w7061 w7062 w7064 w7063 w7065 w7069 w7068 a7070 a7071 ⊢) <;> (try simp only [zz, Int32.reduceToInt, ne_eq] at u5318 xq2 h5319 xq12 h5332 xq14 a5352 u5353 h5354 h5355 h5356 h6592 h6847 w6848 w6849 r6850 r6851 r6852 h6853 h6874 h6999 h7046 w7047 w7048 w7050 w7052 w7051 w7053 w7055 w7056 w7058 w7057 w7060 w7061 w7062 w7064 w7063 w7065 w7069 w7068 a7070 a7071 ⊢) <;> (try simp (disch := omega) only [zb] at u5318 xq2 h5319 xq12 h5332 xq14 a5352 u5353 h5354 h5355 h5356 h6592 h6847 w6848 w6849 r6850 r6851 r6852 h6853 h6874 h6999 h7046 w7047 w7048 w7050 w7052 w7051 w7053 w7055 w7056 w7058 w7057 w7060 w7061 w7062 w7064 w7063 w7065 w7069 w7068 a7070 a7071 ⊢) <;> first | omega | ((try simp (disch := omega) only [zb] at u5318 xq2 h5319 xq12 h5332 xq14 a5352 u5353 h5354 h5355 h5356 h6592 h6847 w6848 w6849 r6850 r6851 r6852 h6853 h6874 h6999 h7046 w7047 w7048 w7050 w7052 w7051 w7053 w7055 w7056 w7058 w7057 w7060 w7061 w7062 w7064 w7063 w7065 w7069 w7068 a7070 a7071 ⊢) <;> omega))⟩
                      · refine sw_sh (ci_sh cq30 t_p0 rfl) ?_
                        refine sw_on (sX9_put cq30 t_p0 (by (try simp only [zp, zo, zq] at u5318 xq2 h5319 xq12 h5332 xq14 a5352 u5353 h5354 h5355 h5356 h6592 h6847 w6848 w6849 r6850 r6851 r6852 h6853 h6874 h6999 h7046 ⊢) <;> (try simp only [zz, Int32.reduceToInt, ne_eq] at u5318 xq2 h5319 xq12 h5332 xq14 a5352 u5353 h5354 h5355 h5356 h6592 h6847 w6848 w6849 r6850 r6851 r6852 h6853 h6874 h6999 h7046 ⊢) <;> (try simp (disch := omega) only [zb] at u5318 xq2 h5319 xq12 h5332 xq14 a5352 u5353 h5354 h5355 h5356 h6592 h6847 w6848 w6849 r6850 r6851 r6852 h6853 h6874 h6999 h7046 ⊢) <;> first | omega | ((try simp (disch := omega) only [zb] at u5318 xq2 h5319 xq12 h5332 xq14 a5352 u5353 h5354 h5355 h5356 h6592 h6847 w6848 w6849 r6850 r6851 r6852 h6853 h6874 h6999 h7046 ⊢) <;> omega)) ) ?_
                        intro q28 hqq28
                        obtain ⟨cq28, gq28, xq28⟩ := hqq28
                        have fq28 := fr_trans fq30 gq28 rfl
                        have w7072 := (gq28.2.2 _ _ t_p0 0 rfl).1
                        have w7073 := (gq30.2.2 _ _ t_p0 0 rfl).1
                        have w7074 : mm_I s11 p0 0 = mm_I q2.2 p0 0 := by rw [← es11]; exact rd_k t_p0 tq5 (by decide)
                        have w7076 := rdA_fr (k := 9) (j := 1) gq28 cq30 t_p0 (κ' := 59) rfl rfl rfl
                        have w7077 := rdA_fr (k := 9) (j := 1) gq30 cs11 t_p0 (κ' := 59) rfl rfl rfl
                        have w7079 : rdA s11 p0 9 1 = mm_I s11 q17 ((1 : Int32)).toNatClampNeg := rdA_eq eq17
                        have w7078 : rdA s11 p0 9 1 = rdA q2.2 p0 9 1 := by rw [← es11]; exact rdA_k cq2 t_p0 (κ' := 59) rfl tq5 (by decide)
                        have w7080 := rdA_fr (k := 9) (j := 1) gq2 c0 t_p0 (κ' := 59) rfl rfl rfl
                        have w7082 := rdA_fr (k := 10) (j := 1) gq28 cq30 t_p0 (κ' := 60) rfl rfl rfl
                        have w7083 := rdA_fr (k := 10) (j := 1) gq30 cs11 t_p0 (κ' := 60) rfl rfl rfl
                        have w7084 : rdA s11 p0 10 1 = rdA q2.2 p0 10 1 := by rw [← es11]; exact rdA_j (by decide)
                        have w7086 : rdA q2.2 p0 10 1 = mm_I q2.2 q5 ((1 : Int32)).toNatClampNeg := rdA_eq eq5
                        have w7085 := rdA_fr (k := 10) (j := 1) gq2 c0 t_p0 (κ' := 60) rfl rfl rfl
                        have w7088 := rdA_fr (k := 10) (j := 0) gq28 cq30 t_p0 (κ' := 60) rfl rfl rfl
                        have w7089 := rdA_fr (k := 10) (j := 0) gq30 cs11 t_p0 (κ' := 60) rfl rfl rfl
                        have w7090 : rdA s11 p0 10 0 = -1 := by rw [← es11]; exact rdA_self eq5
                        have w7091 := rdA_fr (k := 9) (j := 0) gq28 cq30 t_p0 (κ' := 59) rfl rfl rfl
                        have w7092 := rdA_fr (k := 9) (j := 0) gq30 cs11 t_p0 (κ' := 59) rfl rfl rfl
                        have w7094 : rdA s11 p0 9 0 = mm_I s11 q17 ((0 : Int32)).toNatClampNeg := rdA_eq eq17
                        have w7093 : rdA s11 p0 9 0 = rdA q2.2 p0 9 0 := by rw [← es11]; exact rdA_k cq2 t_p0 (κ' := 59) rfl tq5 (by decide)
                        have w7095 := rdA_fr (k := 9) (j := 0) gq2 c0 t_p0 (κ' := 59) rfl rfl rfl
                        have w7099 : rdA q2.2 p0 10 0 = mm_I q2.2 q5 ((0 : Int32)).toNatClampNeg := rdA_eq eq5
                        have w7098 := rdA_fr (k := 10) (j := 0) gq2 c0 t_p0 (κ' := 60) rfl rfl rfl
                        have a7100 := zi_and p3 127 (by decide)
                        have a7101 := zi_and p2 8 (by decide)
                        exact sw_some ⟨cq28, fq28, (by (try simp only [zp, zo, zq] at u5318 xq2 h5319 xq12 h5332 xq14 a5352 u5353 h5354 h5355 h5356 h6592 h6847 w6848 w6849 r6850 r6851 r6852 h6853 h6874 h6999 h7046 w7072 w7073 w7074 w7076 w7077 w7079 w7078 w7080 w7082 w7083 w7084 w7086 w7085 w7088 w7089 w7090 w7091 w7092 w7094 w7093 w7095 w7099 w7098 a7100 a7101 ⊢) <;> (try simp only [zz, Int32.reduceToInt, ne_eq] at u5318 xq2 h5319 xq12 h5332 xq14 a5352 u5353 h5354 h5355 h5356 h6592 h6847 w6848 w6849 r6850 r6851 r6852 h6853 h6874 h6999 h7046 w7072 w7073 w7074 w7076 w7077 w7079 w7078 w7080 w7082 w7083 w7084 w7086 w7085 w7088 w7089 w7090 w7091 w7092 w7094 w7093 w7095 w7099 w7098 a7100 a7101 ⊢) <;> (try simp (disch := omega) only [zb] at u5318 xq2 h5319 xq12 h5332 xq14 a5352 u5353 h5354 h5355 h5356 h6592 h6847 w6848 w6849 r6850 r6851 r6852 h6853 h6874 h6999 h7046 w7072 w7073 w7074 w7076 w7077 w7079 w7078 w7080 w7082 w7083 w7084 w7086 w7085 w7088 w7089 w7090 w7091 w7092 w7094 w7093 w7095 w7099 w7098 a7100 a7101 ⊢) <;> first | omega | ((try simp (disch := omega) only [zb] at u5318 xq2 h5319 xq12 h5332 xq14 a5352 u5353 h5354 h5355 h5356 h6592 h6847 w6848 w6849 r6850 r6851 r6852 h6853 h6874 h6999 h7046 w7072 w7073 w7074 w7076 w7077 w7079 w7078 w7080 w7082 w7083 w7084 w7086 w7085 w7088 w7089 w7090 w7091 w7092 w7094 w7093 w7095 w7099 w7098 a7100 a7101 ⊢) <;> omega))⟩
              · have a7102 := zi_and p3 127 (by decide)
                refine sw_ite (fun h7103 => ?_) (fun h7103 => ?_)
                · unfold fX9_pair_227
                  unfold fX9_pair_228
                  have w7104 : mm_I s11 q17 ((0 : Int32).toNatClampNeg) = mm_I q2.2 q17 ((0 : Int32).toNatClampNeg) := by rw [← es11]; exact rd_k tq17 tq5 (by decide)
                  have w7105 := (gq2.2.2 _ _ tq17 ((0 : Int32).toNatClampNeg) rfl).1
                  have r7106 := ci_rg c0 tq17 ((0 : Int32).toNatClampNeg) (lo := (-1)) (hi := 3) rfl
                  have r7107 := ci_rg cq2 tq17 ((0 : Int32).toNatClampNeg) (lo := (-1)) (hi := 3) rfl
                  have r7108 := ci_rg cs11 tq17 ((0 : Int32).toNatClampNeg) (lo := (-1)) (hi := 3) rfl
                  refine sw_ite (fun h7109 => ?_) (fun h7109 => ?_)
                  · have w7110 : mm_I s11 p0 0 = mm_I q2.2 p0 0 := by rw [← es11]; exact rd_k t_p0 tq5 (by decide)
                    have w7113 : rdA s11 p0 9 1 = mm_I s11 q17 ((1 : Int32)).toNatClampNeg := rdA_eq eq17
                    have w7112 : rdA s11 p0 9 1 = rdA q2.2 p0 9 1 := by rw [← es11]; exact rdA_k cq2 t_p0 (κ' := 59) rfl tq5 (by decide)
                    have w7114 := rdA_fr (k := 9) (j := 1) gq2 c0 t_p0 (κ' := 59) rfl rfl rfl
                    have w7116 : rdA s11 p0 10 1 = rdA q2.2 p0 10 1 := by rw [← es11]; exact rdA_j (by decide)
                    have w7118 : rdA q2.2 p0 10 1 = mm_I q2.2 q5 ((1 : Int32)).toNatClampNeg := rdA_eq eq5
                    have w7117 := rdA_fr (k := 10) (j := 1) gq2 c0 t_p0 (κ' := 60) rfl rfl rfl
                    have w7120 : rdA s11 p0 10 0 = -1 := by rw [← es11]; exact rdA_self eq5
                    have w7122 : rdA s11 p0 9 0 = mm_I s11 q17 ((0 : Int32)).toNatClampNeg := rdA_eq eq17
                    have w7121 : rdA s11 p0 9 0 = rdA q2.2 p0 9 0 := by rw [← es11]; exact rdA_k cq2 t_p0 (κ' := 59) rfl tq5 (by decide)
                    have w7123 := rdA_fr (k := 9) (j := 0) gq2 c0 t_p0 (κ' := 59) rfl rfl rfl
                    have w7127 : rdA q2.2 p0 10 0 = mm_I q2.2 q5 ((0 : Int32)).toNatClampNeg := rdA_eq eq5
                    have w7126 := rdA_fr (k := 10) (j := 0) gq2 c0 t_p0 (κ' := 60) rfl rfl rfl
                    have a7128 := zi_and p2 8 (by decide)
                    exact sw_some ⟨cs11, fs11, (by (try simp only [zp, zo, zq] at u5318 xq2 h5319 xq12 h5332 xq14 a5352 u5353 h5354 h5355 h5356 h6592 h6847 a7102 h7103 w7104 w7105 r7106 r7107 r7108 h7109 w7110 w7113 w7112 w7114 w7116 w7118 w7117 w7120 w7122 w7121 w7123 w7127 w7126 a7128 ⊢) <;> (try simp only [zz, Int32.reduceToInt, ne_eq] at u5318 xq2 h5319 xq12 h5332 xq14 a5352 u5353 h5354 h5355 h5356 h6592 h6847 a7102 h7103 w7104 w7105 r7106 r7107 r7108 h7109 w7110 w7113 w7112 w7114 w7116 w7118 w7117 w7120 w7122 w7121 w7123 w7127 w7126 a7128 ⊢) <;> (try simp (disch := omega) only [zb] at u5318 xq2 h5319 xq12 h5332 xq14 a5352 u5353 h5354 h5355 h5356 h6592 h6847 a7102 h7103 w7104 w7105 r7106 r7107 r7108 h7109 w7110 w7113 w7112 w7114 w7116 w7118 w7117 w7120 w7122 w7121 w7123 w7127 w7126 a7128 ⊢) <;> first | omega | ((try simp (disch := omega) only [zb] at u5318 xq2 h5319 xq12 h5332 xq14 a5352 u5353 h5354 h5355 h5356 h6592 h6847 a7102 h7103 w7104 w7105 r7106 r7107 r7108 h7109 w7110 w7113 w7112 w7114 w7116 w7118 w7117 w7120 w7122 w7121 w7123 w7127 w7126 a7128 ⊢) <;> omega))⟩
                  · refine sw_ite (fun h7129 => ?_) (fun h7129 => ?_)
                    · refine sw_ite (fun h7130 => ?_) (fun h7130 => ?_)
                      · have w7131 : mm_I s11 p0 0 = mm_I q2.2 p0 0 := by rw [← es11]; exact rd_k t_p0 tq5 (by decide)
                        have w7134 : rdA s11 p0 9 1 = mm_I s11 q17 ((1 : Int32)).toNatClampNeg := rdA_eq eq17
                        have w7133 : rdA s11 p0 9 1 = rdA q2.2 p0 9 1 := by rw [← es11]; exact rdA_k cq2 t_p0 (κ' := 59) rfl tq5 (by decide)
                        have w7135 := rdA_fr (k := 9) (j := 1) gq2 c0 t_p0 (κ' := 59) rfl rfl rfl
                        have w7137 : rdA s11 p0 10 1 = rdA q2.2 p0 10 1 := by rw [← es11]; exact rdA_j (by decide)
                        have w7139 : rdA q2.2 p0 10 1 = mm_I q2.2 q5 ((1 : Int32)).toNatClampNeg := rdA_eq eq5
                        have w7138 := rdA_fr (k := 10) (j := 1) gq2 c0 t_p0 (κ' := 60) rfl rfl rfl
                        have w7141 : rdA s11 p0 10 0 = -1 := by rw [← es11]; exact rdA_self eq5
                        have w7143 : rdA s11 p0 9 0 = mm_I s11 q17 ((0 : Int32)).toNatClampNeg := rdA_eq eq17
                        have w7142 : rdA s11 p0 9 0 = rdA q2.2 p0 9 0 := by rw [← es11]; exact rdA_k cq2 t_p0 (κ' := 59) rfl tq5 (by decide)
                        have w7144 := rdA_fr (k := 9) (j := 0) gq2 c0 t_p0 (κ' := 59) rfl rfl rfl
                        have w7148 : rdA q2.2 p0 10 0 = mm_I q2.2 q5 ((0 : Int32)).toNatClampNeg := rdA_eq eq5
                        have w7147 := rdA_fr (k := 10) (j := 0) gq2 c0 t_p0 (κ' := 60) rfl rfl rfl
                        have a7149 := zi_and p2 8 (by decide)
                        exact sw_some ⟨cs11, fs11, (by (try simp only [zp, zo, zq] at u5318 xq2 h5319 xq12 h5332 xq14 a5352 u5353 h5354 h5355 h5356 h6592 h6847 a7102 h7103 w7104 w7105 r7106 r7107 r7108 h7109 h7129 h7130 w7131 w7134 w7133 w7135 w7137 w7139 w7138 w7141 w7143 w7142 w7144 w7148 w7147 a7149 ⊢) <;> (try simp only [zz, Int32.reduceToInt, ne_eq] at u5318 xq2 h5319 xq12 h5332 xq14 a5352 u5353 h5354 h5355 h5356 h6592 h6847 a7102 h7103 w7104 w7105 r7106 r7107 r7108 h7109 h7129 h7130 w7131 w7134 w7133 w7135 w7137 w7139 w7138 w7141 w7143 w7142 w7144 w7148 w7147 a7149 ⊢) <;> (try simp (disch := omega) only [zb] at u5318 xq2 h5319 xq12 h5332 xq14 a5352 u5353 h5354 h5355 h5356 h6592 h6847 a7102 h7103 w7104 w7105 r7106 r7107 r7108 h7109 h7129 h7130 w7131 w7134 w7133 w7135 w7137 w7139 w7138 w7141 w7143 w7142 w7144 w7148 w7147 a7149 ⊢) <;> first | omega | ((try simp (disch := omega) only [zb] at u5318 xq2 h5319 xq12 h5332 xq14 a5352 u5353 h5354 h5355 h5356 h6592 h6847 a7102 h7103 w7104 w7105 r7106 r7107 r7108 h7109 h7129 h7130 w7131 w7134 w7133 w7135 w7137 w7139 w7138 w7141 w7143 w7142 w7144 w7148 w7147 a7149 ⊢) <;> omega))⟩
                      · unfold fX9_pair_250
                        refine sw_ite (fun h7150 => ?_) (fun h7150 => ?_)
                        · unfold fX9_pair_264
                          refine sw_ite (fun h7151 => ?_) (fun h7151 => ?_)
                          · have w7152 : mm_I s11 p0 0 = mm_I q2.2 p0 0 := by rw [← es11]; exact rd_k t_p0 tq5 (by decide)
                            have w7155 : rdA s11 p0 9 1 = mm_I s11 q17 ((1 : Int32)).toNatClampNeg := rdA_eq eq17
                            have w7154 : rdA s11 p0 9 1 = rdA q2.2 p0 9 1 := by rw [← es11]; exact rdA_k cq2 t_p0 (κ' := 59) rfl tq5 (by decide)
                            have w7156 := rdA_fr (k := 9) (j := 1) gq2 c0 t_p0 (κ' := 59) rfl rfl rfl
                            have w7158 : rdA s11 p0 10 1 = rdA q2.2 p0 10 1 := by rw [← es11]; exact rdA_j (by decide)
                            have w7160 : rdA q2.2 p0 10 1 = mm_I q2.2 q5 ((1 : Int32)).toNatClampNeg := rdA_eq eq5
                            have w7159 := rdA_fr (k := 10) (j := 1) gq2 c0 t_p0 (κ' := 60) rfl rfl rfl
                            have w7162 : rdA s11 p0 10 0 = -1 := by rw [← es11]; exact rdA_self eq5
                            have w7164 : rdA s11 p0 9 0 = mm_I s11 q17 ((0 : Int32)).toNatClampNeg := rdA_eq eq17
                            have w7163 : rdA s11 p0 9 0 = rdA q2.2 p0 9 0 := by rw [← es11]; exact rdA_k cq2 t_p0 (κ' := 59) rfl tq5 (by decide)
                            have w7165 := rdA_fr (k := 9) (j := 0) gq2 c0 t_p0 (κ' := 59) rfl rfl rfl
                            have w7169 : rdA q2.2 p0 10 0 = mm_I q2.2 q5 ((0 : Int32)).toNatClampNeg := rdA_eq eq5
                            have w7168 := rdA_fr (k := 10) (j := 0) gq2 c0 t_p0 (κ' := 60) rfl rfl rfl
                            have a7170 := zi_and p2 8 (by decide)
                            exact sw_some ⟨cs11, fs11, (by (try simp only [zp, zo, zq] at u5318 xq2 h5319 xq12 h5332 xq14 a5352 u5353 h5354 h5355 h5356 h6592 h6847 a7102 h7103 w7104 w7105 r7106 r7107 r7108 h7109 h7129 h7130 h7150 h7151 w7152 w7155 w7154 w7156 w7158 w7160 w7159 w7162 w7164 w7163 w7165 w7169 w7168 a7170 ⊢) <;> (try simp only [zz, Int32.reduceToInt, ne_eq] at u5318 xq2 h5319 xq12 h5332 xq14 a5352 u5353 h5354 h5355 h5356 h6592 h6847 a7102 h7103 w7104 w7105 r7106 r7107 r7108 h7109 h7129 h7130 h7150 h7151 w7152 w7155 w7154 w7156 w7158 w7160 w7159 w7162 w7164 w7163 w7165 w7169 w7168 a7170 ⊢) <;> (try simp (disch := omega) only [zb] at u5318 xq2 h5319 xq12 h5332 xq14 a5352 u5353 h5354 h5355 h5356 h6592 h6847 a7102 h7103 w7104 w7105 r7106 r7107 r7108 h7109 h7129 h7130 h7150 h7151 w7152 w7155 w7154 w7156 w7158 w7160 w7159 w7162 w7164 w7163 w7165 w7169 w7168 a7170 ⊢) <;> first | omega | ((try simp (disch := omega) only [zb] at u5318 xq2 h5319 xq12 h5332 xq14 a5352 u5353 h5354 h5355 h5356 h6592 h6847 a7102 h7103 w7104 w7105 r7106 r7107 r7108 h7109 h7129 h7130 h7150 h7151 w7152 w7155 w7154 w7156 w7158 w7160 w7159 w7162 w7164 w7163 w7165 w7169 w7168 a7170 ⊢) <;> omega))⟩
                          · refine sw_sh (ci_sh cs11 t_p0 rfl) ?_
                            refine sw_on (sX9_put cs11 t_p0 (by (try simp only [zp, zo, zq] at u5318 xq2 h5319 xq12 h5332 xq14 a5352 u5353 h5354 h5355 h5356 h6592 h6847 a7102 h7103 w7104 w7105 r7106 r7107 r7108 h7109 h7129 h7130 h7150 h7151 ⊢) <;> (try simp only [zz, Int32.reduceToInt, ne_eq] at u5318 xq2 h5319 xq12 h5332 xq14 a5352 u5353 h5354 h5355 h5356 h6592 h6847 a7102 h7103 w7104 w7105 r7106 r7107 r7108 h7109 h7129 h7130 h7150 h7151 ⊢) <;> (try simp (disch := omega) only [zb] at u5318 xq2 h5319 xq12 h5332 xq14 a5352 u5353 h5354 h5355 h5356 h6592 h6847 a7102 h7103 w7104 w7105 r7106 r7107 r7108 h7109 h7129 h7130 h7150 h7151 ⊢) <;> first | omega | ((try simp (disch := omega) only [zb] at u5318 xq2 h5319 xq12 h5332 xq14 a5352 u5353 h5354 h5355 h5356 h6592 h6847 a7102 h7103 w7104 w7105 r7106 r7107 r7108 h7109 h7129 h7130 h7150 h7151 ⊢) <;> omega)) ) ?_
                            intro q28 hqq28
                            obtain ⟨cq28, gq28, xq28⟩ := hqq28
                            have fq28 := fr_trans fs11 gq28 rfl
                            have w7171 := (gq28.2.2 _ _ t_p0 0 rfl).1
                            have w7172 : mm_I s11 p0 0 = mm_I q2.2 p0 0 := by rw [← es11]; exact rd_k t_p0 tq5 (by decide)
                            have w7174 := rdA_fr (k := 9) (j := 1) gq28 cs11 t_p0 (κ' := 59) rfl rfl rfl
                            have w7176 : rdA s11 p0 9 1 = mm_I s11 q17 ((1 : Int32)).toNatClampNeg := rdA_eq eq17
                            have w7175 : rdA s11 p0 9 1 = rdA q2.2 p0 9 1 := by rw [← es11]; exact rdA_k cq2 t_p0 (κ' := 59) rfl tq5 (by decide)
                            have w7177 := rdA_fr (k := 9) (j := 1) gq2 c0 t_p0 (κ' := 59) rfl rfl rfl
                            have w7179 := rdA_fr (k := 10) (j := 1) gq28 cs11 t_p0 (κ' := 60) rfl rfl rfl
                            have w7180 : rdA s11 p0 10 1 = rdA q2.2 p0 10 1 := by rw [← es11]; exact rdA_j (by decide)
                            have w7182 : rdA q2.2 p0 10 1 = mm_I q2.2 q5 ((1 : Int32)).toNatClampNeg := rdA_eq eq5
                            have w7181 := rdA_fr (k := 10) (j := 1) gq2 c0 t_p0 (κ' := 60) rfl rfl rfl
                            have w7184 := rdA_fr (k := 10) (j := 0) gq28 cs11 t_p0 (κ' := 60) rfl rfl rfl
                            have w7185 : rdA s11 p0 10 0 = -1 := by rw [← es11]; exact rdA_self eq5
                            have w7186 := rdA_fr (k := 9) (j := 0) gq28 cs11 t_p0 (κ' := 59) rfl rfl rfl
                            have w7188 : rdA s11 p0 9 0 = mm_I s11 q17 ((0 : Int32)).toNatClampNeg := rdA_eq eq17
                            have w7187 : rdA s11 p0 9 0 = rdA q2.2 p0 9 0 := by rw [← es11]; exact rdA_k cq2 t_p0 (κ' := 59) rfl tq5 (by decide)
                            have w7189 := rdA_fr (k := 9) (j := 0) gq2 c0 t_p0 (κ' := 59) rfl rfl rfl
                            have w7193 : rdA q2.2 p0 10 0 = mm_I q2.2 q5 ((0 : Int32)).toNatClampNeg := rdA_eq eq5
                            have w7192 := rdA_fr (k := 10) (j := 0) gq2 c0 t_p0 (κ' := 60) rfl rfl rfl
                            have a7194 := zi_and p2 8 (by decide)
                            exact sw_some ⟨cq28, fq28, (by (try simp only [zp, zo, zq] at u5318 xq2 h5319 xq12 h5332 xq14 a5352 u5353 h5354 h5355 h5356 h6592 h6847 a7102 h7103 w7104 w7105 r7106 r7107 r7108 h7109 h7129 h7130 h7150 h7151 w7171 w7172 w7174 w7176 w7175 w7177 w7179 w7180 w7182 w7181 w7184 w7185 w7186 w7188 w7187 w7189 w7193 w7192 a7194 ⊢) <;> (try simp only [zz, Int32.reduceToInt, ne_eq] at u5318 xq2 h5319 xq12 h5332 xq14 a5352 u5353 h5354 h5355 h5356 h6592 h6847 a7102 h7103 w7104 w7105 r7106 r7107 r7108 h7109 h7129 h7130 h7150 h7151 w7171 w7172 w7174 w7176 w7175 w7177 w7179 w7180 w7182 w7181 w7184 w7185 w7186 w7188 w7187 w7189 w7193 w7192 a7194 ⊢) <;> (try simp (disch := omega) only [zb] at u5318 xq2 h5319 xq12 h5332 xq14 a5352 u5353 h5354 h5355 h5356 h6592 h6847 a7102 h7103 w7104 w7105 r7106 r7107 r7108 h7109 h7129 h7130 h7150 h7151 w7171 w7172 w7174 w7176 w7175 w7177 w7179 w7180 w7182 w7181 w7184 w7185 w7186 w7188 w7187 w7189 w7193 w7192 a7194 ⊢) <;> first | omega | ((try simp (disch := omega) only [zb] at u5318 xq2 h5319 xq12 h5332 xq14 a5352 u5353 h5354 h5355 h5356 h6592 h6847 a7102 h7103 w7104 w7105 r7106 r7107 r7108 h7109 h7129 h7130 h7150 h7151 w7171 w7172 w7174 w7176 w7175 w7177 w7179 w7180 w7182 w7181 w7184 w7185 w7186 w7188 w7187 w7189 w7193 w7192 a7194 ⊢) <;> omega))⟩
                        · refine sw_sh (ci_sh cs11 t_p0 rfl) ?_
                          refine sw_on (sX9_put cs11 t_p0 (by (try simp only [zp, zo, zq] at u5318 xq2 h5319 xq12 h5332 xq14 a5352 u5353 h5354 h5355 h5356 h6592 h6847 a7102 h7103 w7104 w7105 r7106 r7107 r7108 h7109 h7129 h7130 h7150 ⊢) <;> (try simp only [zz, Int32.reduceToInt, ne_eq] at u5318 xq2 h5319 xq12 h5332 xq14 a5352 u5353 h5354 h5355 h5356 h6592 h6847 a7102 h7103 w7104 w7105 r7106 r7107 r7108 h7109 h7129 h7130 h7150 ⊢) <;> (try simp (disch := omega) only [zb] at u5318 xq2 h5319 xq12 h5332 xq14 a5352 u5353 h5354 h5355 h5356 h6592 h6847 a7102 h7103 w7104 w7105 r7106 r7107 r7108 h7109 h7129 h7130 h7150 ⊢) <;> first | omega | ((try simp (disch := omega) only [zb] at u5318 xq2 h5319 xq12 h5332 xq14 a5352 u5353 h5354 h5355 h5356 h6592 h6847 a7102 h7103 w7104 w7105 r7106 r7107 r7108 h7109 h7129 h7130 h7150 ⊢) <;> omega)) ) ?_
                          intro q30 hqq30
                          obtain ⟨cq30, gq30, xq30⟩ := hqq30
                          have fq30 := fr_trans fs11 gq30 rfl
                          unfold fX9_pair_264
                          refine sw_ite (fun h7195 => ?_) (fun h7195 => ?_)
                          · have w7196 := (gq30.2.2 _ _ t_p0 0 rfl).1
                            have w7197 : mm_I s11 p0 0 = mm_I q2.2 p0 0 := by rw [← es11]; exact rd_k t_p0 tq5 (by decide)
                            have w7199 := rdA_fr (k := 9) (j := 1) gq30 cs11 t_p0 (κ' := 59) rfl rfl rfl
                            have w7201 : rdA s11 p0 9 1 = mm_I s11 q17 ((1 : Int32)).toNatClampNeg := rdA_eq eq17
                            have w7200 : rdA s11 p0 9 1 = rdA q2.2 p0 9 1 := by rw [← es11]; exact rdA_k cq2 t_p0 (κ' := 59) rfl tq5 (by decide)
                            have w7202 := rdA_fr (k := 9) (j := 1) gq2 c0 t_p0 (κ' := 59) rfl rfl rfl
                            have w7204 := rdA_fr (k := 10) (j := 1) gq30 cs11 t_p0 (κ' := 60) rfl rfl rfl
                            have w7205 : rdA s11 p0 10 1 = rdA q2.2 p0 10 1 := by rw [← es11]; exact rdA_j (by decide)
                            have w7207 : rdA q2.2 p0 10 1 = mm_I q2.2 q5 ((1 : Int32)).toNatClampNeg := rdA_eq eq5
                            have w7206 := rdA_fr (k := 10) (j := 1) gq2 c0 t_p0 (κ' := 60) rfl rfl rfl
                            have w7209 := rdA_fr (k := 10) (j := 0) gq30 cs11 t_p0 (κ' := 60) rfl rfl rfl
                            have w7210 : rdA s11 p0 10 0 = -1 := by rw [← es11]; exact rdA_self eq5
                            have w7211 := rdA_fr (k := 9) (j := 0) gq30 cs11 t_p0 (κ' := 59) rfl rfl rfl
                            have w7213 : rdA s11 p0 9 0 = mm_I s11 q17 ((0 : Int32)).toNatClampNeg := rdA_eq eq17
                            have w7212 : rdA s11 p0 9 0 = rdA q2.2 p0 9 0 := by rw [← es11]; exact rdA_k cq2 t_p0 (κ' := 59) rfl tq5 (by decide)
                            have w7214 := rdA_fr (k := 9) (j := 0) gq2 c0 t_p0 (κ' := 59) rfl rfl rfl
                            have w7218 : rdA q2.2 p0 10 0 = mm_I q2.2 q5 ((0 : Int32)).toNatClampNeg := rdA_eq eq5
                            have w7217 := rdA_fr (k := 10) (j := 0) gq2 c0 t_p0 (κ' := 60) rfl rfl rfl
                            have a7219 := zi_and p2 8 (by decide)
                            exact sw_some ⟨cq30, fq30, (by (try simp only [zp, zo, zq] at u5318 xq2 h5319 xq12 h5332 xq14 a5352 u5353 h5354 h5355 h5356 h6592 h6847 a7102 h7103 w7104 w7105 r7106 r7107 r7108 h7109 h7129 h7130 h7150 h7195 w7196 w7197 w7199 w7201 w7200 w7202 w7204 w7205 w7207 w7206 w7209 w7210 w7211 w7213 w7212 w7214 w7218 w7217 a7219 ⊢) <;> (try simp only [zz, Int32.reduceToInt, ne_eq] at u5318 xq2 h5319 xq12 h5332 xq14 a5352 u5353 h5354 h5355 h5356 h6592 h6847 a7102 h7103 w7104 w7105 r7106 r7107 r7108 h7109 h7129 h7130 h7150 h7195 w7196 w7197 w7199 w7201 w7200 w7202 w7204 w7205 w7207 w7206 w7209 w7210 w7211 w7213 w7212 w7214 w7218 w7217 a7219 ⊢) <;> (try simp (disch := omega) only [zb] at u5318 xq2 h5319 xq12 h5332 xq14 a5352 u5353 h5354 h5355 h5356 h6592 h6847 a7102 h7103 w7104 w7105 r7106 r7107 r7108 h7109 h7129 h7130 h7150 h7195 w7196 w7197 w7199 w7201 w7200 w7202 w7204 w7205 w7207 w7206 w7209 w7210 w7211 w7213 w7212 w7214 w7218 w7217 a7219 ⊢) <;> first | omega | ((try simp (disch := omega) only [zb] at u5318 xq2 h5319 xq12 h5332 xq14 a5352 u5353 h5354 h5355 h5356 h6592 h6847 a7102 h7103 w7104 w7105 r7106 r7107 r7108 h7109 h7129 h7130 h7150 h7195 w7196 w7197 w7199 w7201 w7200 w7202 w7204 w7205 w7207 w7206 w7209 w7210 w7211 w7213 w7212 w7214 w7218 w7217 a7219 ⊢) <;> omega))⟩
                          · refine sw_sh (ci_sh cq30 t_p0 rfl) ?_
                            refine sw_on (sX9_put cq30 t_p0 (by (try simp only [zp, zo, zq] at u5318 xq2 h5319 xq12 h5332 xq14 a5352 u5353 h5354 h5355 h5356 h6592 h6847 a7102 h7103 w7104 w7105 r7106 r7107 r7108 h7109 h7129 h7130 h7150 h7195 ⊢) <;> (try simp only [zz, Int32.reduceToInt, ne_eq] at u5318 xq2 h5319 xq12 h5332 xq14 a5352 u5353 h5354 h5355 h5356 h6592 h6847 a7102 h7103 w7104 w7105 r7106 r7107 r7108 h7109 h7129 h7130 h7150 h7195 ⊢) <;> (try simp (disch := omega) only [zb] at u5318 xq2 h5319 xq12 h5332 xq14 a5352 u5353 h5354 h5355 h5356 h6592 h6847 a7102 h7103 w7104 w7105 r7106 r7107 r7108 h7109 h7129 h7130 h7150 h7195 ⊢) <;> first | omega | ((try simp (disch := omega) only [zb] at u5318 xq2 h5319 xq12 h5332 xq14 a5352 u5353 h5354 h5355 h5356 h6592 h6847 a7102 h7103 w7104 w7105 r7106 r7107 r7108 h7109 h7129 h7130 h7150 h7195 ⊢) <;> omega)) ) ?_
                            intro q28 hqq28
                            obtain ⟨cq28, gq28, xq28⟩ := hqq28
                            have fq28 := fr_trans fq30 gq28 rfl
                            have w7220 := (gq28.2.2 _ _ t_p0 0 rfl).1
                            have w7221 := (gq30.2.2 _ _ t_p0 0 rfl).1
                            have w7222 : mm_I s11 p0 0 = mm_I q2.2 p0 0 := by rw [← es11]; exact rd_k t_p0 tq5 (by decide)
                            have w7224 := rdA_fr (k := 9) (j := 1) gq28 cq30 t_p0 (κ' := 59) rfl rfl rfl
                            have w7225 := rdA_fr (k := 9) (j := 1) gq30 cs11 t_p0 (κ' := 59) rfl rfl rfl
                            have w7227 : rdA s11 p0 9 1 = mm_I s11 q17 ((1 : Int32)).toNatClampNeg := rdA_eq eq17
                            have w7226 : rdA s11 p0 9 1 = rdA q2.2 p0 9 1 := by rw [← es11]; exact rdA_k cq2 t_p0 (κ' := 59) rfl tq5 (by decide)
                            have w7228 := rdA_fr (k := 9) (j := 1) gq2 c0 t_p0 (κ' := 59) rfl rfl rfl
                            have w7230 := rdA_fr (k := 10) (j := 1) gq28 cq30 t_p0 (κ' := 60) rfl rfl rfl
                            have w7231 := rdA_fr (k := 10) (j := 1) gq30 cs11 t_p0 (κ' := 60) rfl rfl rfl
                            have w7232 : rdA s11 p0 10 1 = rdA q2.2 p0 10 1 := by rw [← es11]; exact rdA_j (by decide)
                            have w7234 : rdA q2.2 p0 10 1 = mm_I q2.2 q5 ((1 : Int32)).toNatClampNeg := rdA_eq eq5
                            have w7233 := rdA_fr (k := 10) (j := 1) gq2 c0 t_p0 (κ' := 60) rfl rfl rfl
                            have w7236 := rdA_fr (k := 10) (j := 0) gq28 cq30 t_p0 (κ' := 60) rfl rfl rfl
                            have w7237 := rdA_fr (k := 10) (j := 0) gq30 cs11 t_p0 (κ' := 60) rfl rfl rfl
                            have w7238 : rdA s11 p0 10 0 = -1 := by rw [← es11]; exact rdA_self eq5
                            have w7239 := rdA_fr (k := 9) (j := 0) gq28 cq30 t_p0 (κ' := 59) rfl rfl rfl
                            have w7240 := rdA_fr (k := 9) (j := 0) gq30 cs11 t_p0 (κ' := 59) rfl rfl rfl
                            have w7242 : rdA s11 p0 9 0 = mm_I s11 q17 ((0 : Int32)).toNatClampNeg := rdA_eq eq17
                            have w7241 : rdA s11 p0 9 0 = rdA q2.2 p0 9 0 := by rw [← es11]; exact rdA_k cq2 t_p0 (κ' := 59) rfl tq5 (by decide)
                            have w7243 := rdA_fr (k := 9) (j := 0) gq2 c0 t_p0 (κ' := 59) rfl rfl rfl
                            have w7247 : rdA q2.2 p0 10 0 = mm_I q2.2 q5 ((0 : Int32)).toNatClampNeg := rdA_eq eq5
                            have w7246 := rdA_fr (k := 10) (j := 0) gq2 c0 t_p0 (κ' := 60) rfl rfl rfl
                            have a7248 := zi_and p2 8 (by decide)
                            exact sw_some ⟨cq28, fq28, (by (try simp only [zp, zo, zq] at u5318 xq2 h5319 xq12 h5332 xq14 a5352 u5353 h5354 h5355 h5356 h6592 h6847 a7102 h7103 w7104 w7105 r7106 r7107 r7108 h7109 h7129 h7130 h7150 h7195 w7220 w7221 w7222 w7224 w7225 w7227 w7226 w7228 w7230 w7231 w7232 w7234 w7233 w7236 w7237 w7238 w7239 w7240 w7242 w7241 w7243 w7247 w7246 a7248 ⊢) <;> (try simp only [zz, Int32.reduceToInt, ne_eq] at u5318 xq2 h5319 xq12 h5332 xq14 a5352 u5353 h5354 h5355 h5356 h6592 h6847 a7102 h7103 w7104 w7105 r7106 r7107 r7108 h7109 h7129 h7130 h7150 h7195 w7220 w7221 w7222 w7224 w7225 w7227 w7226 w7228 w7230 w7231 w7232 w7234 w7233 w7236 w7237 w7238 w7239 w7240 w7242 w7241 w7243 w7247 w7246 a7248 ⊢) <;> (try simp (disch := omega) only [zb] at u5318 xq2 h5319 xq12 h5332 xq14 a5352 u5353 h5354 h5355 h5356 h6592 h6847 a7102 h7103 w7104 w7105 r7106 r7107 r7108 h7109 h7129 h7130 h7150 h7195 w7220 w7221 w7222 w7224 w7225 w7227 w7226 w7228 w7230 w7231 w7232 w7234 w7233 w7236 w7237 w7238 w7239 w7240 w7242 w7241 w7243 w7247 w7246 a7248 ⊢) <;> first | omega | ((try simp (disch := omega) only [zb] at u5318 xq2 h5319 xq12 h5332 xq14 a5352 u5353 h5354 h5355 h5356 h6592 h6847 a7102 h7103 w7104 w7105 r7106 r7107 r7108 h7109 h7129 h7130 h7150 h7195 w7220 w7221 w7222 w7224 w7225 w7227 w7226 w7228 w7230 w7231 w7232 w7234 w7233 w7236 w7237 w7238 w7239 w7240 w7242 w7241 w7243 w7247 w7246 a7248 ⊢) <;> omega))⟩
                    · unfold fX9_pair_250
                      refine sw_ite (fun h7249 => ?_) (fun h7249 => ?_)
                      · unfold fX9_pair_264
                        refine sw_ite (fun h7250 => ?_) (fun h7250 => ?_)
                        · have w7251 : mm_I s11 p0 0 = mm_I q2.2 p0 0 := by rw [← es11]; exact rd_k t_p0 tq5 (by decide)
                          have w7254 : rdA s11 p0 9 1 = mm_I s11 q17 ((1 : Int32)).toNatClampNeg := rdA_eq eq17
                          have w7253 : rdA s11 p0 9 1 = rdA q2.2 p0 9 1 := by rw [← es11]; exact rdA_k cq2 t_p0 (κ' := 59) rfl tq5 (by decide)
                          have w7255 := rdA_fr (k := 9) (j := 1) gq2 c0 t_p0 (κ' := 59) rfl rfl rfl
                          have w7257 : rdA s11 p0 10 1 = rdA q2.2 p0 10 1 := by rw [← es11]; exact rdA_j (by decide)
                          have w7259 : rdA q2.2 p0 10 1 = mm_I q2.2 q5 ((1 : Int32)).toNatClampNeg := rdA_eq eq5
                          have w7258 := rdA_fr (k := 10) (j := 1) gq2 c0 t_p0 (κ' := 60) rfl rfl rfl
                          have w7261 : rdA s11 p0 10 0 = -1 := by rw [← es11]; exact rdA_self eq5
                          have w7263 : rdA s11 p0 9 0 = mm_I s11 q17 ((0 : Int32)).toNatClampNeg := rdA_eq eq17
                          have w7262 : rdA s11 p0 9 0 = rdA q2.2 p0 9 0 := by rw [← es11]; exact rdA_k cq2 t_p0 (κ' := 59) rfl tq5 (by decide)
                          have w7264 := rdA_fr (k := 9) (j := 0) gq2 c0 t_p0 (κ' := 59) rfl rfl rfl
                          have w7268 : rdA q2.2 p0 10 0 = mm_I q2.2 q5 ((0 : Int32)).toNatClampNeg := rdA_eq eq5
                          have w7267 := rdA_fr (k := 10) (j := 0) gq2 c0 t_p0 (κ' := 60) rfl rfl rfl
                          have a7269 := zi_and p2 8 (by decide)
                          exact sw_some ⟨cs11, fs11, (by (try simp only [zp, zo, zq] at u5318 xq2 h5319 xq12 h5332 xq14 a5352 u5353 h5354 h5355 h5356 h6592 h6847 a7102 h7103 w7104 w7105 r7106 r7107 r7108 h7109 h7129 h7249 h7250 w7251 w7254 w7253 w7255 w7257 w7259 w7258 w7261 w7263 w7262 w7264 w7268 w7267 a7269 ⊢) <;> (try simp only [zz, Int32.reduceToInt, ne_eq] at u5318 xq2 h5319 xq12 h5332 xq14 a5352 u5353 h5354 h5355 h5356 h6592 h6847 a7102 h7103 w7104 w7105 r7106 r7107 r7108 h7109 h7129 h7249 h7250 w7251 w7254 w7253 w7255 w7257 w7259 w7258 w7261 w7263 w7262 w7264 w7268 w7267 a7269 ⊢) <;> (try simp (disch := omega) only [zb] at u5318 xq2 h5319 xq12 h5332 xq14 a5352 u5353 h5354 h5355 h5356 h6592 h6847 a7102 h7103 w7104 w7105 r7106 r7107 r7108 h7109 h7129 h7249 h7250 w7251 w7254 w7253 w7255 w7257 w7259 w7258 w7261 w7263 w7262 w7264 w7268 w7267 a7269 ⊢) <;> first | omega | ((try simp (disch := omega) only [zb] at u5318 xq2 h5319 xq12 h5332 xq14 a5352 u5353 h5354 h5355 h5356 h6592 h6847 a7102 h7103 w7104 w7105 r7106 r7107 r7108 h7109 h7129 h7249 h7250 w7251 w7254 w7253 w7255 w7257 w7259 w7258 w7261 w7263 w7262 w7264 w7268 w7267 a7269 ⊢) <;> omega))⟩
                        · refine sw_sh (ci_sh cs11 t_p0 rfl) ?_
                          refine sw_on (sX9_put cs11 t_p0 (by (try simp only [zp, zo, zq] at u5318 xq2 h5319 xq12 h5332 xq14 a5352 u5353 h5354 h5355 h5356 h6592 h6847 a7102 h7103 w7104 w7105 r7106 r7107 r7108 h7109 h7129 h7249 h7250 ⊢) <;> (try simp only [zz, Int32.reduceToInt, ne_eq] at u5318 xq2 h5319 xq12 h5332 xq14 a5352 u5353 h5354 h5355 h5356 h6592 h6847 a7102 h7103 w7104 w7105 r7106 r7107 r7108 h7109 h7129 h7249 h7250 ⊢) <;> (try simp (disch := omega) only [zb] at u5318 xq2 h5319 xq12 h5332 xq14 a5352 u5353 h5354 h5355 h5356 h6592 h6847 a7102 h7103 w7104 w7105 r7106 r7107 r7108 h7109 h7129 h7249 h7250 ⊢) <;> first | omega | ((try simp (disch := omega) only [zb] at u5318 xq2 h5319 xq12 h5332 xq14 a5352 u5353 h5354 h5355 h5356 h6592 h6847 a7102 h7103 w7104 w7105 r7106 r7107 r7108 h7109 h7129 h7249 h7250 ⊢) <;> omega)) ) ?_
                          intro q28 hqq28
                          obtain ⟨cq28, gq28, xq28⟩ := hqq28
                          have fq28 := fr_trans fs11 gq28 rfl
                          have w7270 := (gq28.2.2 _ _ t_p0 0 rfl).1
                          have w7271 : mm_I s11 p0 0 = mm_I q2.2 p0 0 := by rw [← es11]; exact rd_k t_p0 tq5 (by decide)
                          have w7273 := rdA_fr (k := 9) (j := 1) gq28 cs11 t_p0 (κ' := 59) rfl rfl rfl
                          have w7275 : rdA s11 p0 9 1 = mm_I s11 q17 ((1 : Int32)).toNatClampNeg := rdA_eq eq17
                          have w7274 : rdA s11 p0 9 1 = rdA q2.2 p0 9 1 := by rw [← es11]; exact rdA_k cq2 t_p0 (κ' := 59) rfl tq5 (by decide)
                          have w7276 := rdA_fr (k := 9) (j := 1) gq2 c0 t_p0 (κ' := 59) rfl rfl rfl
                          have w7278 := rdA_fr (k := 10) (j := 1) gq28 cs11 t_p0 (κ' := 60) rfl rfl rfl
                          have w7279 : rdA s11 p0 10 1 = rdA q2.2 p0 10 1 := by rw [← es11]; exact rdA_j (by decide)
                          have w7281 : rdA q2.2 p0 10 1 = mm_I q2.2 q5 ((1 : Int32)).toNatClampNeg := rdA_eq eq5
                          have w7280 := rdA_fr (k := 10) (j := 1) gq2 c0 t_p0 (κ' := 60) rfl rfl rfl
                          have w7283 := rdA_fr (k := 10) (j := 0) gq28 cs11 t_p0 (κ' := 60) rfl rfl rfl
                          have w7284 : rdA s11 p0 10 0 = -1 := by rw [← es11]; exact rdA_self eq5
                          have w7285 := rdA_fr (k := 9) (j := 0) gq28 cs11 t_p0 (κ' := 59) rfl rfl rfl
                          have w7287 : rdA s11 p0 9 0 = mm_I s11 q17 ((0 : Int32)).toNatClampNeg := rdA_eq eq17
                          have w7286 : rdA s11 p0 9 0 = rdA q2.2 p0 9 0 := by rw [← es11]; exact rdA_k cq2 t_p0 (κ' := 59) rfl tq5 (by decide)
                          have w7288 := rdA_fr (k := 9) (j := 0) gq2 c0 t_p0 (κ' := 59) rfl rfl rfl
                          have w7292 : rdA q2.2 p0 10 0 = mm_I q2.2 q5 ((0 : Int32)).toNatClampNeg := rdA_eq eq5
                          have w7291 := rdA_fr (k := 10) (j := 0) gq2 c0 t_p0 (κ' := 60) rfl rfl rfl
                          have a7293 := zi_and p2 8 (by decide)
                          exact sw_some ⟨cq28, fq28, (by (try simp only [zp, zo, zq] at u5318 xq2 h5319 xq12 h5332 xq14 a5352 u5353 h5354 h5355 h5356 h6592 h6847 a7102 h7103 w7104 w7105 r7106 r7107 r7108 h7109 h7129 h7249 h7250 w7270 w7271 w7273 w7275 w7274 w7276 w7278 w7279 w7281 w7280 w7283 w7284 w7285 w7287 w7286 w7288 w7292 w7291 a7293 ⊢) <;> (try simp only [zz, Int32.reduceToInt, ne_eq] at u5318 xq2 h5319 xq12 h5332 xq14 a5352 u5353 h5354 h5355 h5356 h6592 h6847 a7102 h7103 w7104 w7105 r7106 r7107 r7108 h7109 h7129 h7249 h7250 w7270 w7271 w7273 w7275 w7274 w7276 w7278 w7279 w7281 w7280 w7283 w7284 w7285 w7287 w7286 w7288 w7292 w7291 a7293 ⊢) <;> (try simp (disch := omega) only [zb] at u5318 xq2 h5319 xq12 h5332 xq14 a5352 u5353 h5354 h5355 h5356 h6592 h6847 a7102 h7103 w7104 w7105 r7106 r7107 r7108 h7109 h7129 h7249 h7250 w7270 w7271 w7273 w7275 w7274 w7276 w7278 w7279 w7281 w7280 w7283 w7284 w7285 w7287 w7286 w7288 w7292 w7291 a7293 ⊢) <;> first | omega | ((try simp (disch := omega) only [zb] at u5318 xq2 h5319 xq12 h5332 xq14 a5352 u5353 h5354 h5355 h5356 h6592 h6847 a7102 h7103 w7104 w7105 r7106 r7107 r7108 h7109 h7129 h7249 h7250 w7270 w7271 w7273 w7275 w7274 w7276 w7278 w7279 w7281 w7280 w7283 w7284 w7285 w7287 w7286 w7288 w7292 w7291 a7293 ⊢) <;> omega))⟩
                      · refine sw_sh (ci_sh cs11 t_p0 rfl) ?_
                        refine sw_on (sX9_put cs11 t_p0 (by (try simp only [zp, zo, zq] at u5318 xq2 h5319 xq12 h5332 xq14 a5352 u5353 h5354 h5355 h5356 h6592 h6847 a7102 h7103 w7104 w7105 r7106 r7107 r7108 h7109 h7129 h7249 ⊢) <;> (try simp only [zz, Int32.reduceToInt, ne_eq] at u5318 xq2 h5319 xq12 h5332 xq14 a5352 u5353 h5354 h5355 h5356 h6592 h6847 a7102 h7103 w7104 w7105 r7106 r7107 r7108 h7109 h7129 h7249 ⊢) <;> (try simp (disch := omega) only [zb] at u5318 xq2 h5319 xq12 h5332 xq14 a5352 u5353 h5354 h5355 h5356 h6592 h6847 a7102 h7103 w7104 w7105 r7106 r7107 r7108 h7109 h7129 h7249 ⊢) <;> first | omega | ((try simp (disch := omega) only [zb] at u5318 xq2 h5319 xq12 h5332 xq14 a5352 u5353 h5354 h5355 h5356 h6592 h6847 a7102 h7103 w7104 w7105 r7106 r7107 r7108 h7109 h7129 h7249 ⊢) <;> omega)) ) ?_
                        intro q30 hqq30
                        obtain ⟨cq30, gq30, xq30⟩ := hqq30
                        have fq30 := fr_trans fs11 gq30 rfl
                        unfold fX9_pair_264
                        refine sw_ite (fun h7294 => ?_) (fun h7294 => ?_)
                        · have w7295 := (gq30.2.2 _ _ t_p0 0 rfl).1
                          have w7296 : mm_I s11 p0 0 = mm_I q2.2 p0 0 := by rw [← es11]; exact rd_k t_p0 tq5 (by decide)
                          have w7298 := rdA_fr (k := 9) (j := 1) gq30 cs11 t_p0 (κ' := 59) rfl rfl rfl
                          have w7300 : rdA s11 p0 9 1 = mm_I s11 q17 ((1 : Int32)).toNatClampNeg := rdA_eq eq17
                          have w7299 : rdA s11 p0 9 1 = rdA q2.2 p0 9 1 := by rw [← es11]; exact rdA_k cq2 t_p0 (κ' := 59) rfl tq5 (by decide)
                          have w7301 := rdA_fr (k := 9) (j := 1) gq2 c0 t_p0 (κ' := 59) rfl rfl rfl
                          have w7303 := rdA_fr (k := 10) (j := 1) gq30 cs11 t_p0 (κ' := 60) rfl rfl rfl
                          have w7304 : rdA s11 p0 10 1 = rdA q2.2 p0 10 1 := by rw [← es11]; exact rdA_j (by decide)
                          have w7306 : rdA q2.2 p0 10 1 = mm_I q2.2 q5 ((1 : Int32)).toNatClampNeg := rdA_eq eq5
                          have w7305 := rdA_fr (k := 10) (j := 1) gq2 c0 t_p0 (κ' := 60) rfl rfl rfl
                          have w7308 := rdA_fr (k := 10) (j := 0) gq30 cs11 t_p0 (κ' := 60) rfl rfl rfl
                          have w7309 : rdA s11 p0 10 0 = -1 := by rw [← es11]; exact rdA_self eq5
                          have w7310 := rdA_fr (k := 9) (j := 0) gq30 cs11 t_p0 (κ' := 59) rfl rfl rfl
                          have w7312 : rdA s11 p0 9 0 = mm_I s11 q17 ((0 : Int32)).toNatClampNeg := rdA_eq eq17
                          have w7311 : rdA s11 p0 9 0 = rdA q2.2 p0 9 0 := by rw [← es11]; exact rdA_k cq2 t_p0 (κ' := 59) rfl tq5 (by decide)
                          have w7313 := rdA_fr (k := 9) (j := 0) gq2 c0 t_p0 (κ' := 59) rfl rfl rfl
                          have w7317 : rdA q2.2 p0 10 0 = mm_I q2.2 q5 ((0 : Int32)).toNatClampNeg := rdA_eq eq5
                          have w7316 := rdA_fr (k := 10) (j := 0) gq2 c0 t_p0 (κ' := 60) rfl rfl rfl
                          have a7318 := zi_and p2 8 (by decide)
                          exact sw_some ⟨cq30, fq30, (by (try simp only [zp, zo, zq] at u5318 xq2 h5319 xq12 h5332 xq14 a5352 u5353 h5354 h5355 h5356 h6592 h6847 a7102 h7103 w7104 w7105 r7106 r7107 r7108 h7109 h7129 h7249 h7294 w7295 w7296 w7298 w7300 w7299 w7301 w7303 w7304 w7306 w7305 w7308 w7309 w7310 w7312 w7311 w7313 w7317 w7316 a7318 ⊢) <;> (try simp only [zz, Int32.reduceToInt, ne_eq] at u5318 xq2 h5319 xq12 h5332 xq14 a5352 u5353 h5354 h5355 h5356 h6592 h6847 a7102 h7103 w7104 w7105 r7106 r7107 r7108 h7109 h7129 h7249 h7294 w7295 w7296 w7298 w7300 w7299 w7301 w7303 w7304 w7306 w7305 w7308 w7309 w7310 w7312 w7311 w7313 w7317 w7316 a7318 ⊢) <;> (try simp (disch := omega) only [zb] at u5318 xq2 h5319 xq12 h5332 xq14 a5352 u5353 h5354 h5355 h5356 h6592 h6847 a7102 h7103 w7104 w7105 r7106 r7107 r7108 h7109 h7129 h7249 h7294 w7295 w7296 w7298 w7300 w7299 w7301 w7303 w7304 w7306 w7305 w7308 w7309 w7310 w7312 w7311 w7313 w7317 w7316 a7318 ⊢) <;> first | omega | ((try simp (disch := omega) only [zb] at u5318 xq2 h5319 xq12 h5332 xq14 a5352 u5353 h5354 h5355 h5356 h6592 h6847 a7102 h7103 w7104 w7105 r7106 r7107 r7108 h7109 h7129 h7249 h7294 w7295 w7296 w7298 w7300 w7299 w7301 w7303 w7304 w7306 w7305 w7308 w7309 w7310 w7312 w7311 w7313 w7317 w7316 a7318 ⊢) <;> omega))⟩
                        · refine sw_sh (ci_sh cq30 t_p0 rfl) ?_
                          refine sw_on (sX9_put cq30 t_p0 (by (try simp only [zp, zo, zq] at u5318 xq2 h5319 xq12 h5332 xq14 a5352 u5353 h5354 h5355 h5356 h6592 h6847 a7102 h7103 w7104 w7105 r7106 r7107 r7108 h7109 h7129 h7249 h7294 ⊢) <;> (try simp only [zz, Int32.reduceToInt, ne_eq] at u5318 xq2 h5319 xq12 h5332 xq14 a5352 u5353 h5354 h5355 h5356 h6592 h6847 a7102 h7103 w7104 w7105 r7106 r7107 r7108 h7109 h7129 h7249 h7294 ⊢) <;> (try simp (disch := omega) only [zb] at u5318 xq2 h5319 xq12 h5332 xq14 a5352 u5353 h5354 h5355 h5356 h6592 h6847 a7102 h7103 w7104 w7105 r7106 r7107 r7108 h7109 h7129 h7249 h7294 ⊢) <;> first | omega | ((try simp (disch := omega) only [zb] at u5318 xq2 h5319 xq12 h5332 xq14 a5352 u5353 h5354 h5355 h5356 h6592 h6847 a7102 h7103 w7104 w7105 r7106 r7107 r7108 h7109 h7129 h7249 h7294 ⊢) <;> omega)) ) ?_
                          intro q28 hqq28
                          obtain ⟨cq28, gq28, xq28⟩ := hqq28
                          have fq28 := fr_trans fq30 gq28 rfl
                          have w7319 := (gq28.2.2 _ _ t_p0 0 rfl).1
                          have w7320 := (gq30.2.2 _ _ t_p0 0 rfl).1
                          have w7321 : mm_I s11 p0 0 = mm_I q2.2 p0 0 := by rw [← es11]; exact rd_k t_p0 tq5 (by decide)
                          have w7323 := rdA_fr (k := 9) (j := 1) gq28 cq30 t_p0 (κ' := 59) rfl rfl rfl
                          have w7324 := rdA_fr (k := 9) (j := 1) gq30 cs11 t_p0 (κ' := 59) rfl rfl rfl
                          have w7326 : rdA s11 p0 9 1 = mm_I s11 q17 ((1 : Int32)).toNatClampNeg := rdA_eq eq17
                          have w7325 : rdA s11 p0 9 1 = rdA q2.2 p0 9 1 := by rw [← es11]; exact rdA_k cq2 t_p0 (κ' := 59) rfl tq5 (by decide)
                          have w7327 := rdA_fr (k := 9) (j := 1) gq2 c0 t_p0 (κ' := 59) rfl rfl rfl
                          have w7329 := rdA_fr (k := 10) (j := 1) gq28 cq30 t_p0 (κ' := 60) rfl rfl rfl
                          have w7330 := rdA_fr (k := 10) (j := 1) gq30 cs11 t_p0 (κ' := 60) rfl rfl rfl
                          have w7331 : rdA s11 p0 10 1 = rdA q2.2 p0 10 1 := by rw [← es11]; exact rdA_j (by decide)
                          have w7333 : rdA q2.2 p0 10 1 = mm_I q2.2 q5 ((1 : Int32)).toNatClampNeg := rdA_eq eq5
                          have w7332 := rdA_fr (k := 10) (j := 1) gq2 c0 t_p0 (κ' := 60) rfl rfl rfl
                          have w7335 := rdA_fr (k := 10) (j := 0) gq28 cq30 t_p0 (κ' := 60) rfl rfl rfl
                          have w7336 := rdA_fr (k := 10) (j := 0) gq30 cs11 t_p0 (κ' := 60) rfl rfl rfl
                          have w7337 : rdA s11 p0 10 0 = -1 := by rw [← es11]; exact rdA_self eq5
                          have w7338 := rdA_fr (k := 9) (j := 0) gq28 cq30 t_p0 (κ' := 59) rfl rfl rfl
                          have w7339 := rdA_fr (k := 9) (j := 0) gq30 cs11 t_p0 (κ' := 59) rfl rfl rfl
                          have w7341 : rdA s11 p0 9 0 = mm_I s11 q17 ((0 : Int32)).toNatClampNeg := rdA_eq eq17
                          have w7340 : rdA s11 p0 9 0 = rdA q2.2 p0 9 0 := by rw [← es11]; exact rdA_k cq2 t_p0 (κ' := 59) rfl tq5 (by decide)
                          have w7342 := rdA_fr (k := 9) (j := 0) gq2 c0 t_p0 (κ' := 59) rfl rfl rfl
                          have w7346 : rdA q2.2 p0 10 0 = mm_I q2.2 q5 ((0 : Int32)).toNatClampNeg := rdA_eq eq5
                          have w7345 := rdA_fr (k := 10) (j := 0) gq2 c0 t_p0 (κ' := 60) rfl rfl rfl
                          have a7347 := zi_and p2 8 (by decide)
                          exact sw_some ⟨cq28, fq28, (by (try simp only [zp, zo, zq] at u5318 xq2 h5319 xq12 h5332 xq14 a5352 u5353 h5354 h5355 h5356 h6592 h6847 a7102 h7103 w7104 w7105 r7106 r7107 r7108 h7109 h7129 h7249 h7294 w7319 w7320 w7321 w7323 w7324 w7326 w7325 w7327 w7329 w7330 w7331 w7333 w7332 w7335 w7336 w7337 w7338 w7339 w7341 w7340 w7342 w7346 w7345 a7347 ⊢) <;> (try simp only [zz, Int32.reduceToInt, ne_eq] at u5318 xq2 h5319 xq12 h5332 xq14 a5352 u5353 h5354 h5355 h5356 h6592 h6847 a7102 h7103 w7104 w7105 r7106 r7107 r7108 h7109 h7129 h7249 h7294 w7319 w7320 w7321 w7323 w7324 w7326 w7325 w7327 w7329 w7330 w7331 w7333 w7332 w7335 w7336 w7337 w7338 w7339 w7341 w7340 w7342 w7346 w7345 a7347 ⊢) <;> (try simp (disch := omega) only [zb] at u5318 xq2 h5319 xq12 h5332 xq14 a5352 u5353 h5354 h5355 h5356 h6592 h6847 a7102 h7103 w7104 w7105 r7106 r7107 r7108 h7109 h7129 h7249 h7294 w7319 w7320 w7321 w7323 w7324 w7326 w7325 w7327 w7329 w7330 w7331 w7333 w7332 w7335 w7336 w7337 w7338 w7339 w7341 w7340 w7342 w7346 w7345 a7347 ⊢) <;> first | omega | ((try simp (disch := omega) only [zb] at u5318 xq2 h5319 xq12 h5332 xq14 a5352 u5353 h5354 h5355 h5356 h6592 h6847 a7102 h7103 w7104 w7105 r7106 r7107 r7108 h7109 h7129 h7249 h7294 w7319 w7320 w7321 w7323 w7324 w7326 w7325 w7327 w7329 w7330 w7331 w7333 w7332 w7335 w7336 w7337 w7338 w7339 w7341 w7340 w7342 w7346 w7345 a7347 ⊢) <;> omega))⟩
                · refine sw_ite (fun h7348 => ?_) (fun h7348 => ?_)
                  · unfold fX9_pair_222
                    unfold fX9_pair_228
                    have w7349 : mm_I s11 q17 ((0 : Int32).toNatClampNeg) = mm_I q2.2 q17 ((0 : Int32).toNatClampNeg) := by rw [← es11]; exact rd_k tq17 tq5 (by decide)
                    have w7350 := (gq2.2.2 _ _ tq17 ((0 : Int32).toNatClampNeg) rfl).1
                    have r7351 := ci_rg c0 tq17 ((0 : Int32).toNatClampNeg) (lo := (-1)) (hi := 3) rfl
                    have r7352 := ci_rg cq2 tq17 ((0 : Int32).toNatClampNeg) (lo := (-1)) (hi := 3) rfl
                    have r7353 := ci_rg cs11 tq17 ((0 : Int32).toNatClampNeg) (lo := (-1)) (hi := 3) rfl
                    refine sw_ite (fun h7354 => ?_) (fun h7354 => ?_)
                    · have w7355 : mm_I s11 p0 0 = mm_I q2.2 p0 0 := by rw [← es11]; exact rd_k t_p0 tq5 (by decide)
                      have w7358 : rdA s11 p0 9 1 = mm_I s11 q17 ((1 : Int32)).toNatClampNeg := rdA_eq eq17
                      have w7357 : rdA s11 p0 9 1 = rdA q2.2 p0 9 1 := by rw [← es11]; exact rdA_k cq2 t_p0 (κ' := 59) rfl tq5 (by decide)
                      have w7359 := rdA_fr (k := 9) (j := 1) gq2 c0 t_p0 (κ' := 59) rfl rfl rfl
                      have w7361 : rdA s11 p0 10 1 = rdA q2.2 p0 10 1 := by rw [← es11]; exact rdA_j (by decide)
                      have w7363 : rdA q2.2 p0 10 1 = mm_I q2.2 q5 ((1 : Int32)).toNatClampNeg := rdA_eq eq5
                      have w7362 := rdA_fr (k := 10) (j := 1) gq2 c0 t_p0 (κ' := 60) rfl rfl rfl
                      have w7365 : rdA s11 p0 10 0 = -1 := by rw [← es11]; exact rdA_self eq5
                      have w7367 : rdA s11 p0 9 0 = mm_I s11 q17 ((0 : Int32)).toNatClampNeg := rdA_eq eq17
                      have w7366 : rdA s11 p0 9 0 = rdA q2.2 p0 9 0 := by rw [← es11]; exact rdA_k cq2 t_p0 (κ' := 59) rfl tq5 (by decide)
                      have w7368 := rdA_fr (k := 9) (j := 0) gq2 c0 t_p0 (κ' := 59) rfl rfl rfl
                      have w7372 : rdA q2.2 p0 10 0 = mm_I q2.2 q5 ((0 : Int32)).toNatClampNeg := rdA_eq eq5
                      have w7371 := rdA_fr (k := 10) (j := 0) gq2 c0 t_p0 (κ' := 60) rfl rfl rfl
                      have a7373 := zi_and p2 8 (by decide)
                      exact sw_some ⟨cs11, fs11, (by (try simp only [zp, zo, zq] at u5318 xq2 h5319 xq12 h5332 xq14 a5352 u5353 h5354 h5355 h5356 h6592 h6847 a7102 h7103 h7348 w7349 w7350 r7351 r7352 r7353 h7354 w7355 w7358 w7357 w7359 w7361 w7363 w7362 w7365 w7367 w7366 w7368 w7372 w7371 a7373 ⊢) <;> (try simp only [zz, Int32.reduceToInt, ne_eq] at u5318 xq2 h5319 xq12 h5332 xq14 a5352 u5353 h5354 h5355 h5356 h6592 h6847 a7102 h7103 h7348 w7349 w7350 r7351 r7352 r7353 h7354 w7355 w7358 w7357 w7359 w7361 w7363 w7362 w7365 w7367 w7366 w7368 w7372 w7371 a7373 ⊢) <;> (try simp (disch := omega) only [zb] at u5318 xq2 h5319 xq12 h5332 xq14 a5352 u5353 h5354 h5355 h5356 h6592 h6847 a7102 h7103 h7348 w7349 w7350 r7351 r7352 r7353 h7354 w7355 w7358 w7357 w7359 w7361 w7363 w7362 w7365 w7367 w7366 w7368 w7372 w7371 a7373 ⊢) <;> first | omega | ((try simp (disch := omega) only [zb] at u5318 xq2 h5319 xq12 h5332 xq14 a5352 u5353 h5354 h5355 h5356 h6592 h6847 a7102 h7103 h7348 w7349 w7350 r7351 r7352 r7353 h7354 w7355 w7358 w7357 w7359 w7361 w7363 w7362 w7365 w7367 w7366 w7368 w7372 w7371 a7373 ⊢) <;> omega))⟩
                    · refine sw_ite (fun h7374 => ?_) (fun h7374 => ?_)
                      · refine sw_ite (fun h7375 => ?_) (fun h7375 => ?_)
                        · have w7376 : mm_I s11 p0 0 = mm_I q2.2 p0 0 := by rw [← es11]; exact rd_k t_p0 tq5 (by decide)
                          have w7379 : rdA s11 p0 9 1 = mm_I s11 q17 ((1 : Int32)).toNatClampNeg := rdA_eq eq17
                          have w7378 : rdA s11 p0 9 1 = rdA q2.2 p0 9 1 := by rw [← es11]; exact rdA_k cq2 t_p0 (κ' := 59) rfl tq5 (by decide)
                          have w7380 := rdA_fr (k := 9) (j := 1) gq2 c0 t_p0 (κ' := 59) rfl rfl rfl
                          have w7382 : rdA s11 p0 10 1 = rdA q2.2 p0 10 1 := by rw [← es11]; exact rdA_j (by decide)
                          have w7384 : rdA q2.2 p0 10 1 = mm_I q2.2 q5 ((1 : Int32)).toNatClampNeg := rdA_eq eq5
                          have w7383 := rdA_fr (k := 10) (j := 1) gq2 c0 t_p0 (κ' := 60) rfl rfl rfl
                          have w7386 : rdA s11 p0 10 0 = -1 := by rw [← es11]; exact rdA_self eq5
                          have w7388 : rdA s11 p0 9 0 = mm_I s11 q17 ((0 : Int32)).toNatClampNeg := rdA_eq eq17
                          have w7387 : rdA s11 p0 9 0 = rdA q2.2 p0 9 0 := by rw [← es11]; exact rdA_k cq2 t_p0 (κ' := 59) rfl tq5 (by decide)
                          have w7389 := rdA_fr (k := 9) (j := 0) gq2 c0 t_p0 (κ' := 59) rfl rfl rfl
                          have w7393 : rdA q2.2 p0 10 0 = mm_I q2.2 q5 ((0 : Int32)).toNatClampNeg := rdA_eq eq5
                          have w7392 := rdA_fr (k := 10) (j := 0) gq2 c0 t_p0 (κ' := 60) rfl rfl rfl
                          have a7394 := zi_and p2 8 (by decide)
                          exact sw_some ⟨cs11, fs11, (by (try simp only [zp, zo, zq] at u5318 xq2 h5319 xq12 h5332 xq14 a5352 u5353 h5354 h5355 h5356 h6592 h6847 a7102 h7103 h7348 w7349 w7350 r7351 r7352 r7353 h7354 h7374 h7375 w7376 w7379 w7378 w7380 w7382 w7384 w7383 w7386 w7388 w7387 w7389 w7393 w7392 a7394 ⊢) <;> (try simp only [zz, Int32.reduceToInt, ne_eq] at u5318 xq2 h5319 xq12 h5332 xq14 a5352 u5353 h5354 h5355 h5356 h6592 h6847 a7102 h7103 h7348 w7349 w7350 r7351 r7352 r7353 h7354 h7374 h7375 w7376 w7379 w7378 w7380 w7382 w7384 w7383 w7386 w7388 w7387 w7389 w7393 w7392 a7394 ⊢) <;> (try simp (disch := omega) only [zb] at u5318 xq2 h5319 xq12 h5332 xq14 a5352 u5353 h5354 h5355 h5356 h6592 h6847 a7102 h7103 h7348 w7349 w7350 r7351 r7352 r7353 h7354 h7374 h7375 w7376 w7379 w7378 w7380 w7382 w7384 w7383 w7386 w7388 w7387 w7389 w7393 w7392 a7394 ⊢) <;> first | omega | ((try simp (disch := omega) only [zb] at u5318 xq2 h5319 xq12 h5332 xq14 a5352 u5353 h5354 h5355 h5356 h6592 h6847 a7102 h7103 h7348 w7349 w7350 r7351 r7352 r7353 h7354 h7374 h7375 w7376 w7379 w7378 w7380 w7382 w7384 w7383 w7386 w7388 w7387 w7389 w7393 w7392 a7394 ⊢) <;> omega))⟩
                        · unfold fX9_pair_250
                          refine sw_ite (fun h7395 => ?_) (fun h7395 => ?_)
                          · unfold fX9_pair_264
                            refine sw_ite (fun h7396 => ?_) (fun h7396 => ?_)
                            · have w7397 : mm_I s11 p0 0 = mm_I q2.2 p0 0 := by rw [← es11]; exact rd_k t_p0 tq5 (by decide)
                              have w7400 : rdA s11 p0 9 1 = mm_I s11 q17 ((1 : Int32)).toNatClampNeg := rdA_eq eq17
                              have w7399 : rdA s11 p0 9 1 = rdA q2.2 p0 9 1 := by rw [← es11]; exact rdA_k cq2 t_p0 (κ' := 59) rfl tq5 (by decide)
                              have w7401 := rdA_fr (k := 9) (j := 1) gq2 c0 t_p0 (κ' := 59) rfl rfl rfl
                              have w7403 : rdA s11 p0 10 1 = rdA q2.2 p0 10 1 := by rw [← es11]; exact rdA_j (by decide)
                              have w7405 : rdA q2.2 p0 10 1 = mm_I q2.2 q5 ((1 : Int32)).toNatClampNeg := rdA_eq eq5
                              have w7404 := rdA_fr (k := 10) (j := 1) gq2 c0 t_p0 (κ' := 60) rfl rfl rfl
                              have w7407 : rdA s11 p0 10 0 = -1 := by rw [← es11]; exact rdA_self eq5
                              have w7409 : rdA s11 p0 9 0 = mm_I s11 q17 ((0 : Int32)).toNatClampNeg := rdA_eq eq17
                              have w7408 : rdA s11 p0 9 0 = rdA q2.2 p0 9 0 := by rw [← es11]; exact rdA_k cq2 t_p0 (κ' := 59) rfl tq5 (by decide)
                              have w7410 := rdA_fr (k := 9) (j := 0) gq2 c0 t_p0 (κ' := 59) rfl rfl rfl
                              have w7414 : rdA q2.2 p0 10 0 = mm_I q2.2 q5 ((0 : Int32)).toNatClampNeg := rdA_eq eq5
                              have w7413 := rdA_fr (k := 10) (j := 0) gq2 c0 t_p0 (κ' := 60) rfl rfl rfl
                              have a7415 := zi_and p2 8 (by decide)
                              exact sw_some ⟨cs11, fs11, (by (try simp only [zp, zo, zq] at u5318 xq2 h5319 xq12 h5332 xq14 a5352 u5353 h5354 h5355 h5356 h6592 h6847 a7102 h7103 h7348 w7349 w7350 r7351 r7352 r7353 h7354 h7374 h7375 h7395 h7396 w7397 w7400 w7399 w7401 w7403 w7405 w7404 w7407 w7409 w7408 w7410 w7414 w7413 a7415 ⊢) <;> (try simp only [zz, Int32.reduceToInt, ne_eq] at u5318 xq2 h5319 xq12 h5332 xq14 a5352 u5353 h5354 h5355 h5356 h6592 h6847 a7102 h7103 h7348 w7349 w7350 r7351 r7352 r7353 h7354 h7374 h7375 h7395 h7396 w7397 w7400 w7399 w7401 w7403 w7405 w7404 w7407 w7409 w7408 w7410 w7414 w7413 a7415 ⊢) <;> (try simp (disch := omega) only [zb] at u5318 xq2 h5319 xq12 h5332 xq14 a5352 u5353 h5354 h5355 h5356 h6592 h6847 a7102 h7103 h7348 w7349 w7350 r7351 r7352 r7353 h7354 h7374 h7375 h7395 h7396 w7397 w7400 w7399 w7401 w7403 w7405 w7404 w7407 w7409 w7408 w7410 w7414 w7413 a7415 ⊢) <;> first | omega | ((try simp (disch := omega) only [zb] at u5318 xq2 h5319 xq12 h5332 xq14 a5352 u5353 h5354 h5355 h5356 h6592 h6847 a7102 h7103 h7348 w7349 w7350 r7351 r7352 r7353 h7354 h7374 h7375 h7395 h7396 w7397 w7400 w7399 w7401 w7403 w7405 w7404 w7407 w7409 w7408 w7410 w7414 w7413 a7415 ⊢) <;> omega))⟩
                            · refine sw_sh (ci_sh cs11 t_p0 rfl) ?_
                              refine sw_on (sX9_put cs11 t_p0 (by (try simp only [zp, zo, zq] at u5318 xq2 h5319 xq12 h5332 xq14 a5352 u5353 h5354 h5355 h5356 h6592 h6847 a7102 h7103 h7348 w7349 w7350 r7351 r7352 r7353 h7354 h7374 h7375 h7395 h7396 ⊢) <;> (try simp only [zz, Int32.reduceToInt, ne_eq] at u5318 xq2 h5319 xq12 h5332 xq14 a5352 u5353 h5354 h5355 h5356 h6592 h6847 a7102 h7103 h7348 w7349 w7350 r7351 r7352 r7353 h7354 h7374 h7375 h7395 h7396 ⊢) <;> (try simp (disch := omega) only [zb] at u5318 xq2 h5319 xq12 h5332 xq14 a5352 u5353 h5354 h5355 h5356 h6592 h6847 a7102 h7103 h7348 w7349 w7350 r7351 r7352 r7353 h7354 h7374 h7375 h7395 h7396 ⊢) <;> first | omega | ((try simp (disch := omega) only [zb] at u5318 xq2 h5319 xq12 h5332 xq14 a5352 u5353 h5354 h5355 h5356 h6592 h6847 a7102 h7103 h7348 w7349 w7350 r7351 r7352 r7353 h7354 h7374 h7375 h7395 h7396 ⊢) <;> omega)) ) ?_
                              intro q28 hqq28
                              obtain ⟨cq28, gq28, xq28⟩ := hqq28
                              have fq28 := fr_trans fs11 gq28 rfl
                              have w7416 := (gq28.2.2 _ _ t_p0 0 rfl).1
                              have w7417 : mm_I s11 p0 0 = mm_I q2.2 p0 0 := by rw [← es11]; exact rd_k t_p0 tq5 (by decide)
                              have w7419 := rdA_fr (k := 9) (j := 1) gq28 cs11 t_p0 (κ' := 59) rfl rfl rfl
                              have w7421 : rdA s11 p0 9 1 = mm_I s11 q17 ((1 : Int32)).toNatClampNeg := rdA_eq eq17
                              have w7420 : rdA s11 p0 9 1 = rdA q2.2 p0 9 1 := by rw [← es11]; exact rdA_k cq2 t_p0 (κ' := 59) rfl tq5 (by decide)
                              have w7422 := rdA_fr (k := 9) (j := 1) gq2 c0 t_p0 (κ' := 59) rfl rfl rfl
                              have w7424 := rdA_fr (k := 10) (j := 1) gq28 cs11 t_p0 (κ' := 60) rfl rfl rfl
                              have w7425 : rdA s11 p0 10 1 = rdA q2.2 p0 10 1 := by rw [← es11]; exact rdA_j (by decide)
                              have w7427 : rdA q2.2 p0 10 1 = mm_I q2.2 q5 ((1 : Int32)).toNatClampNeg := rdA_eq eq5
                              have w7426 := rdA_fr (k := 10) (j := 1) gq2 c0 t_p0 (κ' := 60) rfl rfl rfl
                              have w7429 := rdA_fr (k := 10) (j := 0) gq28 cs11 t_p0 (κ' := 60) rfl rfl rfl
                              have w7430 : rdA s11 p0 10 0 = -1 := by rw [← es11]; exact rdA_self eq5
                              have w7431 := rdA_fr (k := 9) (j := 0) gq28 cs11 t_p0 (κ' := 59) rfl rfl rfl
                              have w7433 : rdA s11 p0 9 0 = mm_I s11 q17 ((0 : Int32)).toNatClampNeg := rdA_eq eq17
                              have w7432 : rdA s11 p0 9 0 = rdA q2.2 p0 9 0 := by rw [← es11]; exact rdA_k cq2 t_p0 (κ' := 59) rfl tq5 (by decide)
                              have w7434 := rdA_fr (k := 9) (j := 0) gq2 c0 t_p0 (κ' := 59) rfl rfl rfl
                              have w7438 : rdA q2.2 p0 10 0 = mm_I q2.2 q5 ((0 : Int32)).toNatClampNeg := rdA_eq eq5
                              have w7437 := rdA_fr (k := 10) (j := 0) gq2 c0 t_p0 (κ' := 60) rfl rfl rfl
                              have a7439 := zi_and p2 8 (by decide)
                              exact sw_some ⟨cq28, fq28, (by (try simp only [zp, zo, zq] at u5318 xq2 h5319 xq12 h5332 xq14 a5352 u5353 h5354 h5355 h5356 h6592 h6847 a7102 h7103 h7348 w7349 w7350 r7351 r7352 r7353 h7354 h7374 h7375 h7395 h7396 w7416 w7417 w7419 w7421 w7420 w7422 w7424 w7425 w7427 w7426 w7429 w7430 w7431 w7433 w7432 w7434 w7438 w7437 a7439 ⊢) <;> (try simp only [zz, Int32.reduceToInt, ne_eq] at u5318 xq2 h5319 xq12 h5332 xq14 a5352 u5353 h5354 h5355 h5356 h6592 h6847 a7102 h7103 h7348 w7349 w7350 r7351 r7352 r7353 h7354 h7374 h7375 h7395 h7396 w7416 w7417 w7419 w7421 w7420 w7422 w7424 w7425 w7427 w7426 w7429 w7430 w7431 w7433 w7432 w7434 w7438 w7437 a7439 ⊢) <;> (try simp (disch := omega) only [zb] at u5318 xq2 h5319 xq12 h5332 xq14 a5352 u5353 h5354 h5355 h5356 h6592 h6847 a7102 h7103 h7348 w7349 w7350 r7351 r7352 r7353 h7354 h7374 h7375 h7395 h7396 w7416 w7417 w7419 w7421 w7420 w7422 w7424 w7425 w7427 w7426 w7429 w7430 w7431 w7433 w7432 w7434 w7438 w7437 a7439 ⊢) <;> first | omega | ((try simp (disch := omega) only [zb] at u5318 xq2 h5319 xq12 h5332 xq14 a5352 u5353 h5354 h5355 h5356 h6592 h6847 a7102 h7103 h7348 w7349 w7350 r7351 r7352 r7353 h7354 h7374 h7375 h7395 h7396 w7416 w7417 w7419 w7421 w7420 w7422 w7424 w7425 w7427 w7426 w7429 w7430 w7431 w7433 w7432 w7434 w7438 w7437 a7439 ⊢) <;> omega))⟩
                          · refine sw_sh (ci_sh cs11 t_p0 rfl) ?_
                            refine sw_on (sX9_put cs11 t_p0 (by (try simp only [zp, zo, zq] at u5318 xq2 h5319 xq12 h5332 xq14 a5352 u5353 h5354 h5355 h5356 h6592 h6847 a7102 h7103 h7348 w7349 w7350 r7351 r7352 r7353 h7354 h7374 h7375 h7395 ⊢) <;> (try simp only [zz, Int32.reduceToInt, ne_eq] at u5318 xq2 h5319 xq12 h5332 xq14 a5352 u5353 h5354 h5355 h5356 h6592 h6847 a7102 h7103 h7348 w7349 w7350 r7351 r7352 r7353 h7354 h7374 h7375 h7395 ⊢) <;> (try simp (disch := omega) only [zb] at u5318 xq2 h5319 xq12 h5332 xq14 a5352 u5353 h5354 h5355 h5356 h6592 h6847 a7102 h7103 h7348 w7349 w7350 r7351 r7352 r7353 h7354 h7374 h7375 h7395 ⊢) <;> first | omega | ((try simp (disch := omega) only [zb] at u5318 xq2 h5319 xq12 h5332 xq14 a5352 u5353 h5354 h5355 h5356 h6592 h6847 a7102 h7103 h7348 w7349 w7350 r7351 r7352 r7353 h7354 h7374 h7375 h7395 ⊢) <;> omega)) ) ?_
                            intro q30 hqq30
                            obtain ⟨cq30, gq30, xq30⟩ := hqq30
                            have fq30 := fr_trans fs11 gq30 rfl
                            unfold fX9_pair_264
                            refine sw_ite (fun h7440 => ?_) (fun h7440 => ?_)
                            · have w7441 := (gq30.2.2 _ _ t_p0 0 rfl).1
                              have w7442 : mm_I s11 p0 0 = mm_I q2.2 p0 0 := by rw [← es11]; exact rd_k t_p0 tq5 (by decide)
                              have w7444 := rdA_fr (k := 9) (j := 1) gq30 cs11 t_p0 (κ' := 59) rfl rfl rfl
                              have w7446 : rdA s11 p0 9 1 = mm_I s11 q17 ((1 : Int32)).toNatClampNeg := rdA_eq eq17
                              have w7445 : rdA s11 p0 9 1 = rdA q2.2 p0 9 1 := by rw [← es11]; exact rdA_k cq2 t_p0 (κ' := 59) rfl tq5 (by decide)
                              have w7447 := rdA_fr (k := 9) (j := 1) gq2 c0 t_p0 (κ' := 59) rfl rfl rfl
                              have w7449 := rdA_fr (k := 10) (j := 1) gq30 cs11 t_p0 (κ' := 60) rfl rfl rfl
                              have w7450 : rdA s11 p0 10 1 = rdA q2.2 p0 10 1 := by rw [← es11]; exact rdA_j (by decide)
                              have w7452 : rdA q2.2 p0 10 1 = mm_I q2.2 q5 ((1 : Int32)).toNatClampNeg := rdA_eq eq5
                              have w7451 := rdA_fr (k := 10) (j := 1) gq2 c0 t_p0 (κ' := 60) rfl rfl rfl
                              have w7454 := rdA_fr (k := 10) (j := 0) gq30 cs11 t_p0 (κ' := 60) rfl rfl rfl
                              have w7455 : rdA s11 p0 10 0 = -1 := by rw [← es11]; exact rdA_self eq5
                              have w7456 := rdA_fr (k := 9) (j := 0) gq30 cs11 t_p0 (κ' := 59) rfl rfl rfl
                              have w7458 : rdA s11 p0 9 0 = mm_I s11 q17 ((0 : Int32)).toNatClampNeg := rdA_eq eq17
                              have w7457 : rdA s11 p0 9 0 = rdA q2.2 p0 9 0 := by rw [← es11]; exact rdA_k cq2 t_p0 (κ' := 59) rfl tq5 (by decide)
                              have w7459 := rdA_fr (k := 9) (j := 0) gq2 c0 t_p0 (κ' := 59) rfl rfl rfl
                              have w7463 : rdA q2.2 p0 10 0 = mm_I q2.2 q5 ((0 : Int32)).toNatClampNeg := rdA_eq eq5
                              have w7462 := rdA_fr (k := 10) (j := 0) gq2 c0 t_p0 (κ' := 60) rfl rfl rfl
                              have a7464 := zi_and p2 8 (by decide)
                              exact sw_some ⟨cq30, fq30, (by (try simp only [zp, zo, zq] at u5318 xq2 h5319 xq12 h5332 xq14 a5352 u5353 h5354 h5355 h5356 h6592 h6847 a7102 h7103 h7348 w7349 w7350 r7351 r7352 r7353 h7354 h7374 h7375 h7395 h7440 w7441 w7442 w7444 w7446 w7445 w7447 w7449 w7450 w7452 w7451 w7454 w7455 w7456 w7458 w7457 w7459 w7463 w7462 a7464 ⊢) <;> (try simp only [zz, Int32.reduceToInt, ne_eq] at u5318 xq2 h5319 xq12 h5332 xq14 a5352 u5353 h5354 h5355 h5356 h6592 h6847 a7102 h7103 h7348 w7349 w7350 r7351 r7352 r7353 h7354 h7374 h7375 h7395 h7440 w7441 w7442 w7444 w7446 w7445 w7447 w7449 w7450 w7452 w7451 w7454 w7455 w7456 w7458 w7457 w7459 w7463 w7462 a7464 ⊢) <;> (try simp (disch := omega) only [zb] at u5318 xq2 h5319 xq12 h5332 xq14 a5352 u5353 h5354 h5355 h5356 h6592 h6847 a7102 h7103 h7348 w7349 w7350 r7351 r7352 r7353 h7354 h7374 h7375 h7395 h7440 w7441 w7442 w7444 w7446 w7445 w7447 w7449 w7450 w7452 w7451 w7454 w7455 w7456 w7458 w7457 w7459 w7463 w7462 a7464 ⊢) <;> first | omega | ((try simp (disch := omega) only [zb] at u5318 xq2 h5319 xq12 h5332 xq14 a5352 u5353 h5354 h5355 h5356 h6592 h6847 a7102 h7103 h7348 w7349 w7350 r7351 r7352 r7353 h7354 h7374 h7375 h7395 h7440 w7441 w7442 w7444 w7446 w7445 w7447 w7449 w7450 w7452 w7451 w7454 w7455 w7456 w7458 w7457 w7459 w7463 w7462 a7464 ⊢) <;> omega))⟩
                            · refine sw_sh (ci_sh cq30 t_p0 rfl) ?_
                              refine sw_on (sX9_put cq30 t_p0 (by (try simp only [zp, zo, zq] at u5318 xq2 h5319 xq12 h5332 xq14 a5352 u5353 h5354 h5355 h5356 h6592 h6847 a7102 h7103 h7348 w7349 w7350 r7351 r7352 r7353 h7354 h7374 h7375 h7395 h7440 ⊢) <;> (try simp only [zz, Int32.reduceToInt, ne_eq] at u5318 xq2 h5319 xq12 h5332 xq14 a5352 u5353 h5354 h5355 h5356 h6592 h6847 a7102 h7103 h7348 w7349 w7350 r7351 r7352 r7353 h7354 h7374 h7375 h7395 h7440 ⊢) <;> (try simp (disch := omega) only [zb] at u5318 xq2 h5319 xq12 h5332 xq14 a5352 u5353 h5354 h5355 h5356 h6592 h6847 a7102 h7103 h7348 w7349 w7350 r7351 r7352 r7353 h7354 h7374 h7375 h7395 h7440 ⊢) <;> first | omega | ((try simp (disch := omega) only [zb] at u5318 xq2 h5319 xq12 h5332 xq14 a5352 u5353 h5354 h5355 h5356 h6592 h6847 a7102 h7103 h7348 w7349 w7350 r7351 r7352 r7353 h7354 h7374 h7375 h7395 h7440 ⊢) <;> omega)) ) ?_
                              intro q28 hqq28
                              obtain ⟨cq28, gq28, xq28⟩ := hqq28
                              have fq28 := fr_trans fq30 gq28 rfl
                              have w7465 := (gq28.2.2 _ _ t_p0 0 rfl).1
                              have w7466 := (gq30.2.2 _ _ t_p0 0 rfl).1
                              have w7467 : mm_I s11 p0 0 = mm_I q2.2 p0 0 := by rw [← es11]; exact rd_k t_p0 tq5 (by decide)
                              have w7469 := rdA_fr (k := 9) (j := 1) gq28 cq30 t_p0 (κ' := 59) rfl rfl rfl
                              have w7470 := rdA_fr (k := 9) (j := 1) gq30 cs11 t_p0 (κ' := 59) rfl rfl rfl
                              have w7472 : rdA s11 p0 9 1 = mm_I s11 q17 ((1 : Int32)).toNatClampNeg := rdA_eq eq17
                              have w7471 : rdA s11 p0 9 1 = rdA q2.2 p0 9 1 := by rw [← es11]; exact rdA_k cq2 t_p0 (κ' := 59) rfl tq5 (by decide)
                              have w7473 := rdA_fr (k := 9) (j := 1) gq2 c0 t_p0 (κ' := 59) rfl rfl rfl
                              have w7475 := rdA_fr (k := 10) (j := 1) gq28 cq30 t_p0 (κ' := 60) rfl rfl rfl
                              have w7476 := rdA_fr (k := 10) (j := 1) gq30 cs11 t_p0 (κ' := 60) rfl rfl rfl
                              have w7477 : rdA s11 p0 10 1 = rdA q2.2 p0 10 1 := by rw [← es11]; exact rdA_j (by decide)
                              have w7479 : rdA q2.2 p0 10 1 = mm_I q2.2 q5 ((1 : Int32)).toNatClampNeg := rdA_eq eq5
                              have w7478 := rdA_fr (k := 10) (j := 1) gq2 c0 t_p0 (κ' := 60) rfl rfl rfl
                              have w7481 := rdA_fr (k := 10) (j := 0) gq28 cq30 t_p0 (κ' := 60) rfl rfl rfl
                              have w7482 := rdA_fr (k := 10) (j := 0) gq30 cs11 t_p0 (κ' := 60) rfl rfl rfl
                              have w7483 : rdA s11 p0 10 0 = -1 := by rw [← es11]; exact rdA_self eq5
                              have w7484 := rdA_fr (k := 9) (j := 0) gq28 cq30 t_p0 (κ' := 59) rfl rfl rfl
                              have w7485 := rdA_fr (k := 9) (j := 0) gq30 cs11 t_p0 (κ' := 59) rfl rfl rfl
                              have w7487 : rdA s11 p0 9 0 = mm_I s11 q17 ((0 : Int32)).toNatClampNeg := rdA_eq eq17
                              have w7486 : rdA s11 p0 9 0 = rdA q2.2 p0 9 0 := by rw [← es11]; exact rdA_k cq2 t_p0 (κ' := 59) rfl tq5 (by decide)
                              have w7488 := rdA_fr (k := 9) (j := 0) gq2 c0 t_p0 (κ' := 59) rfl rfl rfl
                              have w7492 : rdA q2.2 p0 10 0 = mm_I q2.2 q5 ((0 : Int32)).toNatClampNeg := rdA_eq eq5
                              have w7491 := rdA_fr (k := 10) (j := 0) gq2 c0 t_p0 (κ' := 60) rfl rfl rfl
                              have a7493 := zi_and p2 8 (by decide)
                              exact sw_some ⟨cq28, fq28, (by (try simp only [zp, zo, zq] at u5318 xq2 h5319 xq12 h5332 xq14 a5352 u5353 h5354 h5355 h5356 h6592 h6847 a7102 h7103 h7348 w7349 w7350 r7351 r7352 r7353 h7354 h7374 h7375 h7395 h7440 w7465 w7466 w7467 w7469 w7470 w7472 w7471 w7473 w7475 w7476 w7477 w7479 w7478 w7481 w7482 w7483 w7484 w7485 w7487 w7486 w7488 w7492 w7491 a7493 ⊢) <;> (try simp only [zz, Int32.reduceToInt, ne_eq] at u5318 xq2 h5319 xq12 h5332 xq14 a5352 u5353 h5354 h5355 h5356 h6592 h6847 a7102 h7103 h7348 w7349 w7350 r7351 r7352 r7353 h7354 h7374 h7375 h7395 h7440 w7465 w7466 w7467 w7469 w7470 w7472 w7471 w7473 w7475 w7476 w7477 w7479 w7478 w7481 w7482 w7483 w7484 w7485 w7487 w7486 w7488 w7492 w7491 a7493 ⊢) <;> (try simp (disch := omega) only [zb] at u5318 xq2 h5319 xq12 h5332 xq14 a5352 u5353 h5354 h5355 h5356 h6592 h6847 a7102 h7103 h7348 w7349 w7350 r7351 r7352 r7353 h7354 h7374 h7375 h7395 h7440 w7465 w7466 w7467 w7469 w7470 w7472 w7471 w7473 w7475 w7476 w7477 w7479 w7478 w7481 w7482 w7483 w7484 w7485 w7487 w7486 w7488 w7492 w7491 a7493 ⊢) <;> first | omega | ((try simp (disch := omega) only [zb] at u5318 xq2 h5319 xq12 h5332 xq14 a5352 u5353 h5354 h5355 h5356 h6592 h6847 a7102 h7103 h7348 w7349 w7350 r7351 r7352 r7353 h7354 h7374 h7375 h7395 h7440 w7465 w7466 w7467 w7469 w7470 w7472 w7471 w7473 w7475 w7476 w7477 w7479 w7478 w7481 w7482 w7483 w7484 w7485 w7487 w7486 w7488 w7492 w7491 a7493 ⊢) <;> omega))⟩
                      · unfold fX9_pair_250
                        refine sw_ite (fun h7494 => ?_) (fun h7494 => ?_)
                        · unfold fX9_pair_264
                          refine sw_ite (fun h7495 => ?_) (fun h7495 => ?_)
                          · have w7496 : mm_I s11 p0 0 = mm_I q2.2 p0 0 := by rw [← es11]; exact rd_k t_p0 tq5 (by decide)
                            have w7499 : rdA s11 p0 9 1 = mm_I s11 q17 ((1 : Int32)).toNatClampNeg := rdA_eq eq17
                            have w7498 : rdA s11 p0 9 1 = rdA q2.2 p0 9 1 := by rw [← es11]; exact rdA_k cq2 t_p0 (κ' := 59) rfl tq5 (by decide)
                            have w7500 := rdA_fr (k := 9) (j := 1) gq2 c0 t_p0 (κ' := 59) rfl rfl rfl
                            have w7502 : rdA s11 p0 10 1 = rdA q2.2 p0 10 1 := by rw [← es11]; exact rdA_j (by decide)
                            have w7504 : rdA q2.2 p0 10 1 = mm_I q2.2 q5 ((1 : Int32)).toNatClampNeg := rdA_eq eq5
                            have w7503 := rdA_fr (k := 10) (j := 1) gq2 c0 t_p0 (κ' := 60) rfl rfl rfl
                            have w7506 : rdA s11 p0 10 0 = -1 := by rw [← es11]; exact rdA_self eq5
                            have w7508 : rdA s11 p0 9 0 = mm_I s11 q17 ((0 : Int32)).toNatClampNeg := rdA_eq eq17
                            have w7507 : rdA s11 p0 9 0 = rdA q2.2 p0 9 0 := by rw [← es11]; exact rdA_k cq2 t_p0 (κ' := 59) rfl tq5 (by decide)
                            have w7509 := rdA_fr (k := 9) (j := 0) gq2 c0 t_p0 (κ' := 59) rfl rfl rfl
                            have w7513 : rdA q2.2 p0 10 0 = mm_I q2.2 q5 ((0 : Int32)).toNatClampNeg := rdA_eq eq5
                            have w7512 := rdA_fr (k := 10) (j := 0) gq2 c0 t_p0 (κ' := 60) rfl rfl rfl
                            have a7514 := zi_and p2 8 (by decide)
                            exact sw_some ⟨cs11, fs11, (by (try simp only [zp, zo, zq] at u5318 xq2 h5319 xq12 h5332 xq14 a5352 u5353 h5354 h5355 h5356 h6592 h6847 a7102 h7103 h7348 w7349 w7350 r7351 r7352 r7353 h7354 h7374 h7494 h7495 w7496 w7499 w7498 w7500 w7502 w7504 w7503 w7506 w7508 w7507 w7509 w7513 w7512 a7514 ⊢) <;> (try simp only [zz, Int32.reduceToInt, ne_eq] at u5318 xq2 h5319 xq12 h5332 xq14 a5352 u5353 h5354 h5355 h5356 h6592 h6847 a7102 h7103 h7348 w7349 w7350 r7351 r7352 r7353 h7354 h7374 h7494 h7495 w7496 w7499 w7498 w7500 w7502 w7504 w7503 w7506 w7508 w7507 w7509 w7513 w7512 a7514 ⊢) <;> (try simp (disch := omega) only [zb] at u5318 xq2 h5319 xq12 h5332 xq14 a5352 u5353 h5354 h5355 h5356 h6592 h6847 a7102 h7103 h7348 w7349 w7350 r7351 r7352 r7353 h7354 h7374 h7494 h7495 w7496 w7499 w7498 w7500 w7502 w7504 w7503 w7506 w7508 w7507 w7509 w7513 w7512 a7514 ⊢) <;> first | omega | ((try simp (disch := omega) only [zb] at u5318 xq2 h5319 xq12 h5332 xq14 a5352 u5353 h5354 h5355 h5356 h6592 h6847 a7102 h7103 h7348 w7349 w7350 r7351 r7352 r7353 h7354 h7374 h7494 h7495 w7496 w7499 w7498 w7500 w7502 w7504 w7503 w7506 w7508 w7507 w7509 w7513 w7512 a7514 ⊢) <;> omega))⟩
                          · refine sw_sh (ci_sh cs11 t_p0 rfl) ?_
                            refine sw_on (sX9_put cs11 t_p0 (by (try simp only [zp, zo, zq] at u5318 xq2 h5319 xq12 h5332 xq14 a5352 u5353 h5354 h5355 h5356 h6592 h6847 a7102 h7103 h7348 w7349 w7350 r7351 r7352 r7353 h7354 h7374 h7494 h7495 ⊢) <;> (try simp only [zz, Int32.reduceToInt, ne_eq] at u5318 xq2 h5319 xq12 h5332 xq14 a5352 u5353 h5354 h5355 h5356 h6592 h6847 a7102 h7103 h7348 w7349 w7350 r7351 r7352 r7353 h7354 h7374 h7494 h7495 ⊢) <;> (try simp (disch := omega) only [zb] at u5318 xq2 h5319 xq12 h5332 xq14 a5352 u5353 h5354 h5355 h5356 h6592 h6847 a7102 h7103 h7348 w7349 w7350 r7351 r7352 r7353 h7354 h7374 h7494 h7495 ⊢) <;> first | omega | ((try simp (disch := omega) only [zb] at u5318 xq2 h5319 xq12 h5332 xq14 a5352 u5353 h5354 h5355 h5356 h6592 h6847 a7102 h7103 h7348 w7349 w7350 r7351 r7352 r7353 h7354 h7374 h7494 h7495 ⊢) <;> omega)) ) ?_
                            intro q28 hqq28
                            obtain ⟨cq28, gq28, xq28⟩ := hqq28
                            have fq28 := fr_trans fs11 gq28 rfl
                            have w7515 := (gq28.2.2 _ _ t_p0 0 rfl).1
                            have w7516 : mm_I s11 p0 0 = mm_I q2.2 p0 0 := by rw [← es11]; exact rd_k t_p0 tq5 (by decide)
                            have w7518 := rdA_fr (k := 9) (j := 1) gq28 cs11 t_p0 (κ' := 59) rfl rfl rfl
                            have w7520 : rdA s11 p0 9 1 = mm_I s11 q17 ((1 : Int32)).toNatClampNeg := rdA_eq eq17
                            have w7519 : rdA s11 p0 9 1 = rdA q2.2 p0 9 1 := by rw [← es11]; exact rdA_k cq2 t_p0 (κ' := 59) rfl tq5 (by decide)
                            have w7521 := rdA_fr (k := 9) (j := 1) gq2 c0 t_p0 (κ' := 59) rfl rfl rfl
                            have w7523 := rdA_fr (k := 10) (j := 1) gq28 cs11 t_p0 (κ' := 60) rfl rfl rfl
                            have w7524 : rdA s11 p0 10 1 = rdA q2.2 p0 10 1 := by rw [← es11]; exact rdA_j (by decide)
                            have w7526 : rdA q2.2 p0 10 1 = mm_I q2.2 q5 ((1 : Int32)).toNatClampNeg := rdA_eq eq5
                            have w7525 := rdA_fr (k := 10) (j := 1) gq2 c0 t_p0 (κ' := 60) rfl rfl rfl
                            have w7528 := rdA_fr (k := 10) (j := 0) gq28 cs11 t_p0 (κ' := 60) rfl rfl rfl
                            have w7529 : rdA s11 p0 10 0 = -1 := by rw [← es11]; exact rdA_self eq5
                            have w7530 := rdA_fr (k := 9) (j := 0) gq28 cs11 t_p0 (κ' := 59) rfl rfl rfl
                            have w7532 : rdA s11 p0 9 0 = mm_I s11 q17 ((0 : Int32)).toNatClampNeg := rdA_eq eq17
                            have w7531 : rdA s11 p0 9 0 = rdA q2.2 p0 9 0 := by rw [← es11]; exact rdA_k cq2 t_p0 (κ' := 59) rfl tq5 (by decide)
                            have w7533 := rdA_fr (k := 9) (j := 0) gq2 c0 t_p0 (κ' := 59) rfl rfl rfl
                            have w7537 : rdA q2.2 p0 10 0 = mm_I q2.2 q5 ((0 : Int32)).toNatClampNeg := rdA_eq eq5
                            have w7536 := rdA_fr (k := 10) (j := 0) gq2 c0 t_p0 (κ' := 60) rfl rfl rfl
                            have a7538 := zi_and p2 8 (by decide)
                            exact sw_some ⟨cq28, fq28, (by (try simp only [zp, zo, zq] at u5318 xq2 h5319 xq12 h5332 xq14 a5352 u5353 h5354 h5355 h5356 h6592 h6847 a7102 h7103 h7348 w7349 w7350 r7351 r7352 r7353 h7354 h7374 h7494 h7495 w7515 w7516 w7518 w7520 w7519 w7521 w7523 w7524 w7526 w7525 w7528 w7529 w7530 w7532 w7531 w7533 w7537 w7536 a7538 ⊢) <;> (try simp only [zz, Int32.reduceToInt, ne_eq] at u5318 xq2 h5319 xq12 h5332 xq14 a5352 u5353 h5354 h5355 h5356 h6592 h6847 a7102 h7103 h7348 w7349 w7350 r7351 r7352 r7353 h7354 h7374 h7494 h7495 w7515 w7516 w7518 w7520 w7519 w7521 w7523 w7524 w7526 w7525 w7528 w7529 w7530 w7532 w7531 w7533 w7537 w7536 a7538 ⊢) <;> (try simp (disch := omega) only [zb] at u5318 xq2 h5319 xq12 h5332 xq14 a5352 u5353 h5354 h5355 h5356 h6592 h6847 a7102 h7103 h7348 w7349 w7350 r7351 r7352 r7353 h7354 h7374 h7494 h7495 w7515 w7516 w7518 w7520 w7519 w7521 w7523 w7524 w7526 w7525 w7528 w7529 w7530 w7532 w7531 w7533 w7537 w7536 a7538 ⊢) <;> first | omega | ((try simp (disch := omega) only [zb] at u5318 xq2 h5319 xq12 h5332 xq14 a5352 u5353 h5354 h5355 h5356 h6592 h6847 a7102 h7103 h7348 w7349 w7350 r7351 r7352 r7353 h7354 h7374 h7494 h7495 w7515 w7516 w7518 w7520 w7519 w7521 w7523 w7524 w7526 w7525 w7528 w7529 w7530 w7532 w7531 w7533 w7537 w7536 a7538 ⊢) <;> omega))⟩
                        · refine sw_sh (ci_sh cs11 t_p0 rfl) ?_
                          refine sw_on (sX9_put cs11 t_p0 (by (try simp only [zp, zo, zq] at u5318 xq2 h5319 xq12 h5332 xq14 a5352 u5353 h5354 h5355 h5356 h6592 h6847 a7102 h7103 h7348 w7349 w7350 r7351 r7352 r7353 h7354 h7374 h7494 ⊢) <;> (try simp only [zz, Int32.reduceToInt, ne_eq] at u5318 xq2 h5319 xq12 h5332 xq14 a5352 u5353 h5354 h5355 h5356 h6592 h6847 a7102 h7103 h7348 w7349 w7350 r7351 r7352 r7353 h7354 h7374 h7494 ⊢) <;> (try simp (disch := omega) only [zb] at u5318 xq2 h5319 xq12 h5332 xq14 a5352 u5353 h5354 h5355 h5356 h6592 h6847 a7102 h7103 h7348 w7349 w7350 r7351 r7352 r7353 h7354 h7374 h7494 ⊢) <;> first | omega | ((try simp (disch := omega) only [zb] at u5318 xq2 h5319 xq12 h5332 xq14 a5352 u5353 h5354 h5355 h5356 h6592 h6847 a7102 h7103 h7348 w7349 w7350 r7351 r7352 r7353 h7354 h7374 h7494 ⊢) <;> omega)) ) ?_
                          intro q30 hqq30
                          obtain ⟨cq30, gq30, xq30⟩ := hqq30
                          have fq30 := fr_trans fs11 gq30 rfl
                          unfold fX9_pair_264
                          refine sw_ite (fun h7539 => ?_) (fun h7539 => ?_)
                          · have w7540 := (gq30.2.2 _ _ t_p0 0 rfl).1
                            have w7541 : mm_I s11 p0 0 = mm_I q2.2 p0 0 := by rw [← es11]; exact rd_k t_p0 tq5 (by decide)
                            have w7543 := rdA_fr (k := 9) (j := 1) gq30 cs11 t_p0 (κ' := 59) rfl rfl rfl
                            have w7545 : rdA s11 p0 9 1 = mm_I s11 q17 ((1 : Int32)).toNatClampNeg := rdA_eq eq17
                            have w7544 : rdA s11 p0 9 1 = rdA q2.2 p0 9 1 := by rw [← es11]; exact rdA_k cq2 t_p0 (κ' := 59) rfl tq5 (by decide)
                            have w7546 := rdA_fr (k := 9) (j := 1) gq2 c0 t_p0 (κ' := 59) rfl rfl rfl
                            have w7548 := rdA_fr (k := 10) (j := 1) gq30 cs11 t_p0 (κ' := 60) rfl rfl rfl
                            have w7549 : rdA s11 p0 10 1 = rdA q2.2 p0 10 1 := by rw [← es11]; exact rdA_j (by decide)
                            have w7551 : rdA q2.2 p0 10 1 = mm_I q2.2 q5 ((1 : Int32)).toNatClampNeg := rdA_eq eq5
                            have w7550 := rdA_fr (k := 10) (j := 1) gq2 c0 t_p0 (κ' := 60) rfl rfl rfl
                            have w7553 := rdA_fr (k := 10) (j := 0) gq30 cs11 t_p0 (κ' := 60) rfl rfl rfl
                            have w7554 : rdA s11 p0 10 0 = -1 := by rw [← es11]; exact rdA_self eq5
                            have w7555 := rdA_fr (k := 9) (j := 0) gq30 cs11 t_p0 (κ' := 59) rfl rfl rfl
                            have w7557 : rdA s11 p0 9 0 = mm_I s11 q17 ((0 : Int32)).toNatClampNeg := rdA_eq eq17
                            have w7556 : rdA s11 p0 9 0 = rdA q2.2 p0 9 0 := by rw [← es11]; exact rdA_k cq2 t_p0 (κ' := 59) rfl tq5 (by decide)
                            have w7558 := rdA_fr (k := 9) (j := 0) gq2 c0 t_p0 (κ' := 59) rfl rfl rfl
                            have w7562 : rdA q2.2 p0 10 0 = mm_I q2.2 q5 ((0 : Int32)).toNatClampNeg := rdA_eq eq5
                            have w7561 := rdA_fr (k := 10) (j := 0) gq2 c0 t_p0 (κ' := 60) rfl rfl rfl
                            have a7563 := zi_and p2 8 (by decide)
                            exact sw_some ⟨cq30, fq30, (by (try simp only [zp, zo, zq] at u5318 xq2 h5319 xq12 h5332 xq14 a5352 u5353 h5354 h5355 h5356 h6592 h6847 a7102 h7103 h7348 w7349 w7350 r7351 r7352 r7353 h7354 h7374 h7494 h7539 w7540 w7541 w7543 w7545 w7544 w7546 w7548 w7549 w7551 w7550 w7553 w7554 w7555 w7557 w7556 w7558 w7562 w7561 a7563 ⊢) <;> (try simp only [zz, Int32.reduceToInt, ne_eq] at u5318 xq2 h5319 xq12 h5332 xq14 a5352 u5353 h5354 h5355 h5356 h6592 h6847 a7102 h7103 h7348 w7349 w7350 r7351 r7352 r7353 h7354 h7374 h7494 h7539 w7540 w7541 w7543 w7545 w7544 w7546 w7548 w7549 w7551 w7550 w7553 w7554 w7555 w7557 w7556 w7558 w7562 w7561 a7563 ⊢) <;> (try simp (disch := omega) only [zb] at u5318 xq2 h5319 xq12 h5332 xq14 a5352 u5353 h5354 h5355 h5356 h6592 h6847 a7102 h7103 h7348 w7349 w7350 r7351 r7352 r7353 h7354 h7374 h7494 h7539 w7540 w7541 w7543 w7545 w7544 w7546 w7548 w7549 w7551 w7550 w7553 w7554 w7555 w7557 w7556 w7558 w7562 w7561 a7563 ⊢) <;> first | omega | ((try simp (disch := omega) only [zb] at u5318 xq2 h5319 xq12 h5332 xq14 a5352 u5353 h5354 h5355 h5356 h6592 h6847 a7102 h7103 h7348 w7349 w7350 r7351 r7352 r7353 h7354 h7374 h7494 h7539 w7540 w7541 w7543 w7545 w7544 w7546 w7548 w7549 w7551 w7550 w7553 w7554 w7555 w7557 w7556 w7558 w7562 w7561 a7563 ⊢) <;> omega))⟩
                          · refine sw_sh (ci_sh cq30 t_p0 rfl) ?_
                            refine sw_on (sX9_put cq30 t_p0 (by (try simp only [zp, zo, zq] at u5318 xq2 h5319 xq12 h5332 xq14 a5352 u5353 h5354 h5355 h5356 h6592 h6847 a7102 h7103 h7348 w7349 w7350 r7351 r7352 r7353 h7354 h7374 h7494 h7539 ⊢) <;> (try simp only [zz, Int32.reduceToInt, ne_eq] at u5318 xq2 h5319 xq12 h5332 xq14 a5352 u5353 h5354 h5355 h5356 h6592 h6847 a7102 h7103 h7348 w7349 w7350 r7351 r7352 r7353 h7354 h7374 h7494 h7539 ⊢) <;> (try simp (disch := omega) only [zb] at u5318 xq2 h5319 xq12 h5332 xq14 a5352 u5353 h5354 h5355 h5356 h6592 h6847 a7102 h7103 h7348 w7349 w7350 r7351 r7352 r7353 h7354 h7374 h7494 h7539 ⊢) <;> first | omega | ((try simp (disch := omega) only [zb] at u5318 xq2 h5319 xq12 h5332 xq14 a5352 u5353 h5354 h5355 h5356 h6592 h6847 a7102 h7103 h7348 w7349 w7350 r7351 r7352 r7353 h7354 h7374 h7494 h7539 ⊢) <;> omega)) ) ?_
                            intro q28 hqq28
                            obtain ⟨cq28, gq28, xq28⟩ := hqq28
                            have fq28 := fr_trans fq30 gq28 rfl
                            have w7564 := (gq28.2.2 _ _ t_p0 0 rfl).1
                            have w7565 := (gq30.2.2 _ _ t_p0 0 rfl).1
                            have w7566 : mm_I s11 p0 0 = mm_I q2.2 p0 0 := by rw [← es11]; exact rd_k t_p0 tq5 (by decide)
                            have w7568 := rdA_fr (k := 9) (j := 1) gq28 cq30 t_p0 (κ' := 59) rfl rfl rfl
                            have w7569 := rdA_fr (k := 9) (j := 1) gq30 cs11 t_p0 (κ' := 59) rfl rfl rfl
                            have w7571 : rdA s11 p0 9 1 = mm_I s11 q17 ((1 : Int32)).toNatClampNeg := rdA_eq eq17
                            have w7570 : rdA s11 p0 9 1 = rdA q2.2 p0 9 1 := by rw [← es11]; exact rdA_k cq2 t_p0 (κ' := 59) rfl tq5 (by decide)
                            have w7572 := rdA_fr (k := 9) (j := 1) gq2 c0 t_p0 (κ' := 59) rfl rfl rfl
                            have w7574 := rdA_fr (k := 10) (j := 1) gq28 cq30 t_p0 (κ' := 60) rfl rfl rfl
                            have w7575 := rdA_fr (k := 10) (j := 1) gq30 cs11 t_p0 (κ' := 60) rfl rfl rfl
                            have w7576 : rdA s11 p0 10 1 = rdA q2.2 p0 10 1 := by rw [← es11]; exact rdA_j (by decide)
                            have w7578 : rdA q2.2 p0 10 1 = mm_I q2.2 q5 ((1 : Int32)).toNatClampNeg := rdA_eq eq5
                            have w7577 := rdA_fr (k := 10) (j := 1) gq2 c0 t_p0 (κ' := 60) rfl rfl rfl
                            have w7580 := rdA_fr (k := 10) (j := 0) gq28 cq30 t_p0 (κ' := 60) rfl rfl rfl
                            have w7581 := rdA_fr (k := 10) (j := 0) gq30 cs11 t_p0 (κ' := 60) rfl rfl rfl
                            have w7582 : rdA s11 p0 10 0 = -1 := by rw [← es11]; exact rdA_self eq5
                            have w7583 := rdA_fr (k := 9) (j := 0) gq28 cq30 t_p0 (κ' := 59) rfl rfl rfl
                            have w7584 := rdA_fr (k := 9) (j := 0) gq30 cs11 t_p0 (κ' := 59) rfl rfl rfl
                            have w7586 : rdA s11 p0 9 0 = mm_I s11 q17 ((0 : Int32)).toNatClampNeg := rdA_eq eq17
                            have w7585 : rdA s11 p0 9 0 = rdA q2.2 p0 9 0 := by rw [← es11]; exact rdA_k cq2 t_p0 (κ' := 59) rfl tq5 (by decide)
                            have w7587 := rdA_fr (k := 9) (j := 0) gq2 c0 t_p0 (κ' := 59) rfl rfl rfl
                            have w7591 : rdA q2.2 p0 10 0 = mm_I q2.2 q5 ((0 : Int32)).toNatClampNeg := rdA_eq eq5
                            have w7590 := rdA_fr (k := 10) (j := 0) gq2 c0 t_p0 (κ' := 60) rfl rfl rfl
                            have a7592 := zi_and p2 8 (by decide)
                            exact sw_some ⟨cq28, fq28, (by (try simp only [zp, zo, zq] at u5318 xq2 h5319 xq12 h5332 xq14 a5352 u5353 h5354 h5355 h5356 h6592 h6847 a7102 h7103 h7348 w7349 w7350 r7351 r7352 r7353 h7354 h7374 h7494 h7539 w7564 w7565 w7566 w7568 w7569 w7571 w7570 w7572 w7574 w7575 w7576 w7578 w7577 w7580 w7581 w7582 w7583 w7584 w7586 w7585 w7587 w7591 w7590 a7592 ⊢) <;> (try simp only [zz, Int32.reduceToInt, ne_eq] at u5318 xq2 h5319 xq12 h5332 xq14 a5352 u5353 h5354 h5355 h5356 h6592 h6847 a7102 h7103 h7348 w7349 w7350 r7351 r7352 r7353 h7354 h7374 h7494 h7539 w7564 w7565 w7566 w7568 w7569 w7571 w7570 w7572 w7574 w7575 w7576 w7578 w7577 w7580 w7581 w7582 w7583 w7584 w7586 w7585 w7587 w7591 w7590 a7592 ⊢) <;> (try simp (disch := omega) only [zb] at u5318 xq2 h5319 xq12 h5332 xq14 a5352 u5353 h5354 h5355 h5356 h6592 h6847 a7102 h7103 h7348 w7349 w7350 r7351 r7352 r7353 h7354 h7374 h7494 h7539 w7564 w7565 w7566 w7568 w7569 w7571 w7570 w7572 w7574 w7575 w7576 w7578 w7577 w7580 w7581 w7582 w7583 w7584 w7586 w7585 w7587 w7591 w7590 a7592 ⊢) <;> first | omega | ((try simp (disch := omega) only [zb] at u5318 xq2 h5319 xq12 h5332 xq14 a5352 u5353 h5354 h5355 h5356 h6592 h6847 a7102 h7103 h7348 w7349 w7350 r7351 r7352 r7353 h7354 h7374 h7494 h7539 w7564 w7565 w7566 w7568 w7569 w7571 w7570 w7572 w7574 w7575 w7576 w7578 w7577 w7580 w7581 w7582 w7583 w7584 w7586 w7585 w7587 w7591 w7590 a7592 ⊢) <;> omega))⟩
                  · refine sw_ite (fun h7593 => ?_) (fun h7593 => ?_)
                    · unfold fX9_pair_222
                      unfold fX9_pair_228
                      have w7594 : mm_I s11 q17 ((0 : Int32).toNatClampNeg) = mm_I q2.2 q17 ((0 : Int32).toNatClampNeg) := by rw [← es11]; exact rd_k tq17 tq5 (by decide)
                      have w7595 := (gq2.2.2 _ _ tq17 ((0 : Int32).toNatClampNeg) rfl).1
                      have r7596 := ci_rg c0 tq17 ((0 : Int32).toNatClampNeg) (lo := (-1)) (hi := 3) rfl
                      have r7597 := ci_rg cq2 tq17 ((0 : Int32).toNatClampNeg) (lo := (-1)) (hi := 3) rfl
                      have r7598 := ci_rg cs11 tq17 ((0 : Int32).toNatClampNeg) (lo := (-1)) (hi := 3) rfl
                      refine sw_ite (fun h7599 => ?_) (fun h7599 => ?_)
                      · have w7600 : mm_I s11 p0 0 = mm_I q2.2 p0 0 := by rw [← es11]; exact rd_k t_p0 tq5 (by decide)
                        have w7603 : rdA s11 p0 9 1 = mm_I s11 q17 ((1 : Int32)).toNatClampNeg := rdA_eq eq17
                        have w7602 : rdA s11 p0 9 1 = rdA q2.2 p0 9 1 := by rw [← es11]; exact rdA_k cq2 t_p0 (κ' := 59) rfl tq5 (by decide)
                        have w7604 := rdA_fr (k := 9) (j := 1) gq2 c0 t_p0 (κ' := 59) rfl rfl rfl
                        have w7606 : rdA s11 p0 10 1 = rdA q2.2 p0 10 1 := by rw [← es11]; exact rdA_j (by decide)
                        have w7608 : rdA q2.2 p0 10 1 = mm_I q2.2 q5 ((1 : Int32)).toNatClampNeg := rdA_eq eq5
                        have w7607 := rdA_fr (k := 10) (j := 1) gq2 c0 t_p0 (κ' := 60) rfl rfl rfl
                        have w7610 : rdA s11 p0 10 0 = -1 := by rw [← es11]; exact rdA_self eq5
                        have w7612 : rdA s11 p0 9 0 = mm_I s11 q17 ((0 : Int32)).toNatClampNeg := rdA_eq eq17
                        have w7611 : rdA s11 p0 9 0 = rdA q2.2 p0 9 0 := by rw [← es11]; exact rdA_k cq2 t_p0 (κ' := 59) rfl tq5 (by decide)
                        have w7613 := rdA_fr (k := 9) (j := 0) gq2 c0 t_p0 (κ' := 59) rfl rfl rfl
                        have w7617 : rdA q2.2 p0 10 0 = mm_I q2.2 q5 ((0 : Int32)).toNatClampNeg := rdA_eq eq5
                        have w7616 := rdA_fr (k := 10) (j := 0) gq2 c0 t_p0 (κ' := 60) rfl rfl rfl
                        have a7618 := zi_and p2 8 (by decide)
                        exact sw_some ⟨cs11, fs11, (by (try simp only [zp, zo, zq] at u5318 xq2 h5319 xq12 h5332 xq14 a5352 u5353 h5354 h5355 h5356 h6592 h6847 a7102 h7103 h7348 h7593 w7594 w7595 r7596 r7597 r7598 h7599 w7600 w7603 w7602 w7604 w7606 w7608 w7607 w7610 w7612 w7611 w7613 w7617 w7616 a7618 ⊢) <;> (try simp only [zz, Int32.reduceToInt, ne_eq] at u5318 xq2 h5319 xq12 h5332 xq14 a5352 u5353 h5354 h5355 h5356 h6592 h6847 a7102 h7103 h7348 h7593 w7594 w7595 r7596 r7597 r7598 h7599 w7600 w7603 w7602 w7604 w7606 w7608 w7607 w7610 w7612 w7611 w7613 w7617 w7616 a7618 ⊢) <;> (try simp (disch := omega) only [zb] at u5318 xq2 h5319 xq12 h5332 xq14 a5352 u5353 h5354 h5355 h5356 h6592 h6847 a7102 h7103 h7348 h7593 w7594 w7595 r7596 r7597 r7598 h7599 w7600 w7603 w7602 w7604 w7606 w7608 w7607 w7610 w7612 w7611 w7613 w7617 w7616 a7618 ⊢) <;> first | omega | ((try simp (disch := omega) only [zb] at u5318 xq2 h5319 xq12 h5332 xq14 a5352 u5353 h5354 h5355 h5356 h6592 h6847 a7102 h7103 h7348 h7593 w7594 w7595 r7596 r7597 r7598 h7599 w7600 w7603 w7602 w7604 w7606 w7608 w7607 w7610 w7612 w7611 w7613 w7617 w7616 a7618 ⊢) <;> omega))⟩
                      · refine sw_ite (fun h7619 => ?_) (fun h7619 => ?_)
                        · refine sw_ite (fun h7620 => ?_) (fun h7620 => ?_)
                          · have w7621 : mm_I s11 p0 0 = mm_I q2.2 p0 0 := by rw [← es11]; exact rd_k t_p0 tq5 (by decide)
                            have w7624 : rdA s11 p0 9 1 = mm_I s11 q17 ((1 : Int32)).toNatClampNeg := rdA_eq eq17
                            have w7623 : rdA s11 p0 9 1 = rdA q2.2 p0 9 1 := by rw [← es11]; exact rdA_k cq2 t_p0 (κ' := 59) rfl tq5 (by decide)
                            have w7625 := rdA_fr (k := 9) (j := 1) gq2 c0 t_p0 (κ' := 59) rfl rfl rfl
                            have w7627 : rdA s11 p0 10 1 = rdA q2.2 p0 10 1 := by rw [← es11]; exact rdA_j (by decide)
                            have w7629 : rdA q2.2 p0 10 1 = mm_I q2.2 q5 ((1 : Int32)).toNatClampNeg := rdA_eq eq5
                            have w7628 := rdA_fr (k := 10) (j := 1) gq2 c0 t_p0 (κ' := 60) rfl rfl rfl
                            have w7631 : rdA s11 p0 10 0 = -1 := by rw [← es11]; exact rdA_self eq5
                            have w7633 : rdA s11 p0 9 0 = mm_I s11 q17 ((0 : Int32)).toNatClampNeg := rdA_eq eq17
                            have w7632 : rdA s11 p0 9 0 = rdA q2.2 p0 9 0 := by rw [← es11]; exact rdA_k cq2 t_p0 (κ' := 59) rfl tq5 (by decide)
                            have w7634 := rdA_fr (k := 9) (j := 0) gq2 c0 t_p0 (κ' := 59) rfl rfl rfl
                            have w7638 : rdA q2.2 p0 10 0 = mm_I q2.2 q5 ((0 : Int32)).toNatClampNeg := rdA_eq eq5
                            have w7637 := rdA_fr (k := 10) (j := 0) gq2 c0 t_p0 (κ' := 60) rfl rfl rfl
                            have a7639 := zi_and p2 8 (by decide)
                            exact sw_some ⟨cs11, fs11, (by (try simp only [zp, zo, zq] at u5318 xq2 h5319 xq12 h5332 xq14 a5352 u5353 h5354 h5355 h5356 h6592 h6847 a7102 h7103 h7348 h7593 w7594 w7595 r7596 r7597 r7598 h7599 h7619 h7620 w7621 w7624 w7623 w7625 w7627 w7629 w7628 w7631 w7633 w7632 w7634 w7638 w7637 a7639 ⊢) <;> (try simp only [zz, Int32.reduceToInt, ne_eq] at u5318 xq2 h5319 xq12 h5332 xq14 a5352 u5353 h5354 h5355 h5356 h6592 h6847 a7102 h7103 h7348 h7593 w7594 w7595 r7596 r7597 r7598 h7599 h7619 h7620 w7621 w7624 w7623 w7625 w7627 w7629 w7628 w7631 w7633 w7632 w7634 w7638 w7637 a7639 ⊢) <;> (try simp (disch := omega) only [zb] at u5318 xq2 h5319 xq12 h5332 xq14 a5352 u5353 h5354 h5355 h5356 h6592 h6847 a7102 h7103 h7348 h7593 w7594 w7595 r7596 r7597 r7598 h7599 h7619 h7620 w7621 w7624 w7623 w7625 w7627 w7629 w7628 w7631 w7633 w7632 w7634 w7638 w7637 a7639 ⊢) <;> first | omega | ((try simp (disch := omega) only [zb] at u5318 xq2 h5319 xq12 h5332 xq14 a5352 u5353 h5354 h5355 h5356 h6592 h6847 a7102 h7103 h7348 h7593 w7594 w7595 r7596 r7597 r7598 h7599 h7619 h7620 w7621 w7624 w7623 w7625 w7627 w7629 w7628 w7631 w7633 w7632 w7634 w7638 w7637 a7639 ⊢) <;> omega))⟩
                          · unfold fX9_pair_250
                            refine sw_ite (fun h7640 => ?_) (fun h7640 => ?_)
                            · unfold fX9_pair_264
                              refine sw_ite (fun h7641 => ?_) (fun h7641 => ?_)
                              · have w7642 : mm_I s11 p0 0 = mm_I q2.2 p0 0 := by rw [← es11]; exact rd_k t_p0 tq5 (by decide)
                                have w7645 : rdA s11 p0 9 1 = mm_I s11 q17 ((1 : Int32)).toNatClampNeg := rdA_eq eq17
                                have w7644 : rdA s11 p0 9 1 = rdA q2.2 p0 9 1 := by rw [← es11]; exact rdA_k cq2 t_p0 (κ' := 59) rfl tq5 (by decide)
                                have w7646 := rdA_fr (k := 9) (j := 1) gq2 c0 t_p0 (κ' := 59) rfl rfl rfl
                                have w7648 : rdA s11 p0 10 1 = rdA q2.2 p0 10 1 := by rw [← es11]; exact rdA_j (by decide)
                                have w7650 : rdA q2.2 p0 10 1 = mm_I q2.2 q5 ((1 : Int32)).toNatClampNeg := rdA_eq eq5
                                have w7649 := rdA_fr (k := 10) (j := 1) gq2 c0 t_p0 (κ' := 60) rfl rfl rfl
                                have w7652 : rdA s11 p0 10 0 = -1 := by rw [← es11]; exact rdA_self eq5
                                have w7654 : rdA s11 p0 9 0 = mm_I s11 q17 ((0 : Int32)).toNatClampNeg := rdA_eq eq17
                                have w7653 : rdA s11 p0 9 0 = rdA q2.2 p0 9 0 := by rw [← es11]; exact rdA_k cq2 t_p0 (κ' := 59) rfl tq5 (by decide)
                                have w7655 := rdA_fr (k := 9) (j := 0) gq2 c0 t_p0 (κ' := 59) rfl rfl rfl
                                have w7659 : rdA q2.2 p0 10 0 = mm_I q2.2 q5 ((0 : Int32)).toNatClampNeg := rdA_eq eq5
                                have w7658 := rdA_fr (k := 10) (j := 0) gq2 c0 t_p0 (κ' := 60) rfl rfl rfl
                                have a7660 := zi_and p2 8 (by decide)
                                exact sw_some ⟨cs11, fs11, (by (try simp only [zp, zo, zq] at u5318 xq2 h5319 xq12 h5332 xq14 a5352 u5353 h5354 h5355 h5356 h6592 h6847 a7102 h7103 h7348 h7593 w7594 w7595 r7596 r7597 r7598 h7599 h7619 h7620 h7640 h7641 w7642 w7645 w7644 w7646 w7648 w7650 w7649 w7652 w7654 w7653 w7655 w7659 w7658 a7660 ⊢) <;> (try simp only [zz, Int32.reduceToInt, ne_eq] at u5318 xq2 h5319 xq12 h5332 xq14 a5352 u5353 h5354 h5355 h5356 h6592 h6847 a7102 h7103 h7348 h7593 w7594 w7595 r7596 r7597 r7598 h7599 h7619 h7620 h7640 h7641 w7642 w7645 w7644 w7646 w7648 w7650 w7649 w7652 w7654 w7653 w7655 w7659 w7658 a7660 ⊢) <;> (try simp (disch := omega) only [zb] at u5318 xq2 h5319 xq12 h5332 xq14 a5352 u5353 h5354 h5355 h5356 h6592 h6847 a7102 h7103 h7348 h7593 w7594 w7595 r7596 r7597 r7598 h7599 h7619 h7620 h7640 h7641 w7642 w7645 w7644 w7646 w7648 w7650 w7649 w7652 w7654 w7653 w7655 w7659 w7658 a7660 ⊢) <;> first | omega | ((try simp (disch := omega) only [zb] at u5318 xq2 h5319 xq12 h5332 xq14 a5352 u5353 h5354 h5355 h5356 h6592 h6847 a7102 h7103 h7348 h7593 w7594 w7595 r7596 r7597 r7598 h7599 h7619 h7620 h7640 h7641 w7642 w7645 w7644 w7646 w7648 w7650 w7649 w7652 w7654 w7653 w7655 w7659 w7658 a7660 ⊢) <;> omega))⟩
                              · refine sw_sh (ci_sh cs11 t_p0 rfl) ?_
                                refine sw_on (sX9_put cs11 t_p0 (by (try simp only [zp, zo, zq] at u5318 xq2 h5319 xq12 h5332 xq14 a5352 u5353 h5354 h5355 h5356 h6592 h6847 a7102 h7103 h7348 h7593 w7594 w7595 r7596 r7597 r7598 h7599 h7619 h7620 h7640 h7641 ⊢) <;> (try simp only [zz, Int32.reduceToInt, ne_eq] at u5318 xq2 h5319 xq12 h5332 xq14 a5352 u5353 h5354 h5355 h5356 h6592 h6847 a7102 h7103 h7348 h7593 w7594 w7595 r7596 r7597 r7598 h7599 h7619 h7620 h7640 h7641 ⊢) <;> (try simp (disch := omega) only [zb] at u5318 xq2 h5319 xq12 h5332 xq14 a5352 u5353 h5354 h5355 h5356 h6592 h6847 a7102 h7103 h7348 h7593 w7594 w7595 r7596 r7597 r7598 h7599 h7619 h7620 h7640 h7641 ⊢) <;> first | omega | ((try simp (disch := omega) only [zb] at u5318 xq2 h5319 xq12 h5332 xq14 a5352 u5353 h5354 h5355 h5356 h6592 h6847 a7102 h7103 h7348 h7593 w7594 w7595 r7596 r7597 r7598 h7599 h7619 h7620 h7640 h7641 ⊢) <;> omega)) ) ?_
                                intro q28 hqq28
                                obtain ⟨cq28, gq28, xq28⟩ := hqq28
                                have fq28 := fr_trans fs11 gq28 rfl
                                have w7661 := (gq28.2.2 _ _ t_p0 0 rfl).1
                                have w7662 : mm_I s11 p0 0 = mm_I q2.2 p0 0 := by rw [← es11]; exact rd_k t_p0 tq5 (by decide)
                                have w7664 := rdA_fr (k := 9) (j := 1) gq28 cs11 t_p0 (κ' := 59) rfl rfl rfl
                                have w7666 : rdA s11 p0 9 1 = mm_I s11 q17 ((1 : Int32)).toNatClampNeg := rdA_eq eq17
                                have w7665 : rdA s11 p0 9 1 = rdA q2.2 p0 9 1 := by rw [← es11]; exact rdA_k cq2 t_p0 (κ' := 59) rfl tq5 (by decide)
                                have w7667 := rdA_fr (k := 9) (j := 1) gq2 c0 t_p0 (κ' := 59) rfl rfl rfl
                                have w7669 := rdA_fr (k := 10) (j := 1) gq28 cs11 t_p0 (κ' := 60) rfl rfl rfl
                                have w7670 : rdA s11 p0 10 1 = rdA q2.2 p0 10 1 := by rw [← es11]; exact rdA_j (by decide)
                                have w7672 : rdA q2.2 p0 10 1 = mm_I q2.2 q5 ((1 : Int32)).toNatClampNeg := rdA_eq eq5
                                have w7671 := rdA_fr (k := 10) (j := 1) gq2 c0 t_p0 (κ' := 60) rfl rfl rfl
                                have w7674 := rdA_fr (k := 10) (j := 0) gq28 cs11 t_p0 (κ' := 60) rfl rfl rfl
                                have w7675 : rdA s11 p0 10 0 = -1 := by rw [← es11]; exact rdA_self eq5
                                have w7676 := rdA_fr (k := 9) (j := 0) gq28 cs11 t_p0 (κ' := 59) rfl rfl rfl
                                have w7678 : rdA s11 p0 9 0 = mm_I s11 q17 ((0 : Int32)).toNatClampNeg := rdA_eq eq17
                                have w7677 : rdA s11 p0 9 0 = rdA q2.2 p0 9 0 := by rw [← es11]; exact rdA_k cq2 t_p0 (κ' := 59) rfl tq5 (by decide)
                                have w7679 := rdA_fr (k := 9) (j := 0) gq2 c0 t_p0 (κ' := 59) rfl rfl rfl
                                have w7683 : rdA q2.2 p0 10 0 = mm_I q2.2 q5 ((0 : Int32)).toNatClampNeg := rdA_eq eq5
                                have w7682 := rdA_fr (k := 10) (j := 0) gq2 c0 t_p0 (κ' := 60) rfl rfl rfl
                                have a7684 := zi_and p2 8 (by decide)
                                exact sw_some ⟨cq28, fq28, (by (try simp only [zp, zo, zq] at u5318 xq2 h5319 xq12 h5332 xq14 a5352 u5353 h5354 h5355 h5356 h6592 h6847 a7102 h7103 h7348 h7593 w7594 w7595 r7596 r7597 r7598 h7599 h7619 h7620 h7640 h7641 w7661 w7662 w7664 w7666 w7665 w7667 w7669 w7670 w7672 w7671 w7674 w7675 w7676 w7678 w7677 w7679 w7683 w7682 a7684 ⊢) <;> (try simp only [zz, Int32.reduceToInt, ne_eq] at u5318 xq2 h5319 xq12 h5332 xq14 a5352 u5353 h5354 h5355 h5356 h6592 h6847 a7102 h7103 h7348 h7593 w7594 w7595 r7596 r7597 r7598 h7599 h7619 h7620 h7640 h7641 w7661 w7662 w7664 w7666 w7665 w7667 w7669 w7670 w7672 w7671 w7674 w7675 w7676 w7678 w7677 w7679 w7683 w7682 a7684 ⊢) <;> (try simp (disch := omega) only [zb] at u5318 xq2 h5319 xq12 h5332 xq14 a5352 u5353 h5354 h5355 h5356 h6592 h6847 a7102 h7103 h7348 h7593 w7594 w7595 r7596 r7597 r7598 h7599 h7619 h7620 h7640 h7641 w7661 w7662 w7664 w7666 w7665 w7667 w7669 w7670 w7672 w7671 w7674 w7675 w7676 w7678 w7677 w7679 w7683 w7682 a7684 ⊢) <;> first | omega | ((try simp (disch := omega) only [zb] at u5318 xq2 h5319 xq12 h5332 xq14 a5352 u5353 h5354 h5355 h5356 h6592 h6847 a7102 h7103 h7348 h7593 w7594 w7595 r7596 r7597 r7598 h7599 h7619 h7620 h7640 h7641 w7661 w7662 w7664 w7666 w7665 w7667 w7669 w7670 w7672 w7671 w7674 w7675 w7676 w7678 w7677 w7679 w7683 w7682 a7684 ⊢) <;> omega))⟩
                            · refine sw_sh (ci_sh cs11 t_p0 rfl) ?_
                              refine sw_on (sX9_put cs11 t_p0 (by (try simp only [zp, zo, zq] at u5318 xq2 h5319 xq12 h5332 xq14 a5352 u5353 h5354 h5355 h5356 h6592 h6847 a7102 h7103 h7348 h7593 w7594 w7595 r7596 r7597 r7598 h7599 h7619 h7620 h7640 ⊢) <;> (try simp only [zz, Int32.reduceToInt, ne_eq] at u5318 xq2 h5319 xq12 h5332 xq14 a5352 u5353 h5354 h5355 h5356 h6592 h6847 a7102 h7103 h7348 h7593 w7594 w7595 r7596 r7597 r7598 h7599 h7619 h7620 h7640 ⊢) <;> (try simp (disch := omega) only [zb] at u5318 xq2 h5319 xq12 h5332 xq14 a5352 u5353 h5354 h5355 h5356 h6592 h6847 a7102 h7103 h7348 h7593 w7594 w7595 r7596 r7597 r7598 h7599 h7619 h7620 h7640 ⊢) <;> first | omega | ((try simp (disch := omega) only [zb] at u5318 xq2 h5319 xq12 h5332 xq14 a5352 u5353 h5354 h5355 h5356 h6592 h6847 a7102 h7103 h7348 h7593 w7594 w7595 r7596 r7597 r7598 h7599 h7619 h7620 h7640 ⊢) <;> omega)) ) ?_
                              intro q30 hqq30
                              obtain ⟨cq30, gq30, xq30⟩ := hqq30
                              have fq30 := fr_trans fs11 gq30 rfl
                              unfold fX9_pair_264
                              refine sw_ite (fun h7685 => ?_) (fun h7685 => ?_)
                              · have w7686 := (gq30.2.2 _ _ t_p0 0 rfl).1
                                have w7687 : mm_I s11 p0 0 = mm_I q2.2 p0 0 := by rw [← es11]; exact rd_k t_p0 tq5 (by decide)
                                have w7689 := rdA_fr (k := 9) (j := 1) gq30 cs11 t_p0 (κ' := 59) rfl rfl rfl
                                have w7691 : rdA s11 p0 9 1 = mm_I s11 q17 ((1 : Int32)).toNatClampNeg := rdA_eq eq17
                                have w7690 : rdA s11 p0 9 1 = rdA q2.2 p0 9 1 := by rw [← es11]; exact rdA_k cq2 t_p0 (κ' := 59) rfl tq5 (by decide)
                                have w7692 := rdA_fr (k := 9) (j := 1) gq2 c0 t_p0 (κ' := 59) rfl rfl rfl
                                have w7694 := rdA_fr (k := 10) (j := 1) gq30 cs11 t_p0 (κ' := 60) rfl rfl rfl
                                have w7695 : rdA s11 p0 10 1 = rdA q2.2 p0 10 1 := by rw [← es11]; exact rdA_j (by decide)
                                have w7697 : rdA q2.2 p0 10 1 = mm_I q2.2 q5 ((1 : Int32)).toNatClampNeg := rdA_eq eq5
                                have w7696 := rdA_fr (k := 10) (j := 1) gq2 c0 t_p0 (κ' := 60) rfl rfl rfl
                                have w7699 := rdA_fr (k := 10) (j := 0) gq30 cs11 t_p0 (κ' := 60) rfl rfl rfl
                                have w7700 : rdA s11 p0 10 0 = -1 := by rw [← es11]; exact rdA_self eq5
                                have w7701 := rdA_fr (k := 9) (j := 0) gq30 cs11 t_p0 (κ' := 59) rfl rfl rfl
                                have w7703 : rdA s11 p0 9 0 = mm_I s11 q17 ((0 : Int32)).toNatClampNeg := rdA_eq eq17
                                have w7702 : rdA s11 p0 9 0 = rdA q2.2 p0 9 0 := by rw [← es11]; exact rdA_k cq2 t_p0 (κ' := 59) rfl tq5 (by decide)
                                have w7704 := rdA_fr (k := 9) (j := 0) gq2 c0 t_p0 (κ' := 59) rfl rfl rfl
                                have w7708 : rdA q2.2 p0 10 0 = mm_I q2.2 q5 ((0 : Int32)).toNatClampNeg := rdA_eq eq5
                                have w7707 := rdA_fr (k := 10) (j := 0) gq2 c0 t_p0 (κ' := 60) rfl rfl rfl
                                have a7709 := zi_and p2 8 (by decide)
                                exact sw_some ⟨cq30, fq30, (by (try simp only [zp, zo, zq] at u5318 xq2 h5319 xq12 h5332 xq14 a5352 u5353 h5354 h5355 h5356 h6592 h6847 a7102 h7103 h7348 h7593 w7594 w7595 r7596 r7597 r7598 h7599 h7619 h7620 h7640 h7685 w7686 w7687 w7689 w7691 w7690 w7692 w7694 w7695 w7697 w7696 w7699 w7700 w7701 w7703 w7702 w7704 w7708 w7707 a7709 ⊢) <;> (try simp only [zz, Int32.reduceToInt, ne_eq] at u5318 xq2 h5319 xq12 h5332 xq14 a5352 u5353 h5354 h5355 h5356 h6592 h6847 a7102 h7103 h7348 h7593 w7594 w7595 r7596 r7597 r7598 h7599 h7619 h7620 h7640 h7685 w7686 w7687 w7689 w7691 w7690 w7692 w7694 w7695 w7697 w7696 w7699 w7700 w7701 w7703 w7702 w7704 w7708 w7707 a7709 ⊢) <;> (try simp (disch := omega) only [zb] at u5318 xq2 h5319 xq12 h5332 xq14 a5352 u5353 h5354 h5355 h5356 h6592 h6847 a7102 h7103 h7348 h7593 w7594 w7595 r7596 r7597 r7598 h7599 h7619 h7620 h7640 h7685 w7686 w7687 w7689 w7691 w7690 w7692 w7694 w7695 w7697 w7696 w7699 w7700 w7701 w7703 w7702 w7704 w7708 w7707 a7709 ⊢) <;> first | omega | ((try simp (disch := omega) only [zb] at u5318 xq2 h5319 xq12 h5332 xq14 a5352 u5353 h5354 h5355 h5356 h6592 h6847 a7102 h7103 h7348 h7593 w7594 w7595 r7596 r7597 r7598 h7599 h7619 h7620 h7640 h7685 w7686 w7687 w7689 w7691 w7690 w7692 w7694 w7695 w7697 w7696 w7699 w7700 w7701 w7703 w7702 w7704 w7708 w7707 a7709 ⊢) <;> omega))⟩
                              · refine sw_sh (ci_sh cq30 t_p0 rfl) ?_
                                refine sw_on (sX9_put cq30 t_p0 (by (try simp only [zp, zo, zq] at u5318 xq2 h5319 xq12 h5332 xq14 a5352 u5353 h5354 h5355 h5356 h6592 h6847 a7102 h7103 h7348 h7593 w7594 w7595 r7596 r7597 r7598 h7599 h7619 h7620 h7640 h7685 ⊢) <;> (try simp only [zz, Int32.reduceToInt, ne_eq] at u5318 xq2 h5319 xq12 h5332 xq14 a5352 u5353 h5354 h5355 h5356 h6592 h6847 a7102 h7103 h7348 h7593 w7594 w7595 r7596 r7597 r7598 h7599 h7619 h7620 h7640 h7685 ⊢) <;> (try simp (disch := omega) only [zb] at u5318 xq2 h5319 xq12 h5332 xq14 a5352 u5353 h5354 h5355 h5356 h6592 h6847 a7102 h7103 h7348 h7593 w7594 w7595 r7596 r7597 r7598 h7599 h7619 h7620 h7640 h7685 ⊢) <;> first | omega | ((try simp (disch := omega) only [zb] at u5318 xq2 h5319 xq12 h5332 xq14 a5352 u5353 h5354 h5355 h5356 h6592 h6847 a7102 h7103 h7348 h7593 w7594 w7595 r7596 r7597 r7598 h7599 h7619 h7620 h7640 h7685 ⊢) <;> omega)) ) ?_
                                intro q28 hqq28
                                obtain ⟨cq28, gq28, xq28⟩ := hqq28
                                have fq28 := fr_trans fq30 gq28 rfl
                                have w7710 := (gq28.2.2 _ _ t_p0 0 rfl).1
                                have w7711 := (gq30.2.2 _ _ t_p0 0 rfl).1
                                have w7712 : mm_I s11 p0 0 = mm_I q2.2 p0 0 := by rw [← es11]; exact rd_k t_p0 tq5 (by decide)
                                have w7714 := rdA_fr (k := 9) (j := 1) gq28 cq30 t_p0 (κ' := 59) rfl rfl rfl
                                have w7715 := rdA_fr (k := 9) (j := 1) gq30 cs11 t_p0 (κ' := 59) rfl rfl rfl
                                have w7717 : rdA s11 p0 9 1 = mm_I s11 q17 ((1 : Int32)).toNatClampNeg := rdA_eq eq17
                                have w7716 : rdA s11 p0 9 1 = rdA q2.2 p0 9 1 := by rw [← es11]; exact rdA_k cq2 t_p0 (κ' := 59) rfl tq5 (by decide)
                                have w7718 := rdA_fr (k := 9) (j := 1) gq2 c0 t_p0 (κ' := 59) rfl rfl rfl
                                have w7720 := rdA_fr (k := 10) (j := 1) gq28 cq30 t_p0 (κ' := 60) rfl rfl rfl
                                have w7721 := rdA_fr (k := 10) (j := 1) gq30 cs11 t_p0 (κ' := 60) rfl rfl rfl
                                have w7722 : rdA s11 p0 10 1 = rdA q2.2 p0 10 1 := by rw [← es11]; exact rdA_j (by decide)
                                have w7724 : rdA q2.2 p0 10 1 = mm_I q2.2 q5 ((1 : Int32)).toNatClampNeg := rdA_eq eq5
                                have w7723 := rdA_fr (k := 10) (j := 1) gq2 c0 t_p0 (κ' := 60) rfl rfl rfl
                                have w7726 := rdA_fr (k := 10) (j := 0) gq28 cq30 t_p0 (κ' := 60) rfl rfl rfl
                                have w7727 := rdA_fr (k := 10) (j := 0) gq30 cs11 t_p0 (κ' := 60) rfl rfl rfl
                                have w7728 : rdA s11 p0 10 0 = -1 := by rw [← es11]; exact rdA_self eq5
                                have w7729 := rdA_fr (k := 9) (j := 0) gq28 cq30 t_p0 (κ' := 59) rfl rfl rfl
                                have w7730 := rdA_fr (k := 9) (j := 0) gq30 cs11 t_p0 (κ' := 59) rfl rfl rfl
                                have w7732 : rdA s11 p0 9 0 = mm_I s11 q17 ((0 : Int32)).toNatClampNeg := rdA_eq eq17
                                have w7731 : rdA s11 p0 9 0 = rdA q2.2 p0 9 0 := by rw [← es11]; exact rdA_k cq2 t_p0 (κ' := 59) rfl tq5 (by decide)
                                have w7733 := rdA_fr (k := 9) (j := 0) gq2 c0 t_p0 (κ' := 59) rfl rfl rfl
                                have w7737 : rdA q2.2 p0 10 0 = mm_I q2.2 q5 ((0 : Int32)).toNatClampNeg := rdA_eq eq5
                                have w7736 := rdA_fr (k := 10) (j := 0) gq2 c0 t_p0 (κ' := 60) rfl rfl rfl
                                have a7738 := zi_and p2 8 (by decide)
                                exact sw_some ⟨cq28, fq28, (by (try simp only [zp, zo, zq] at u5318 xq2 h5319 xq12 h5332 xq14 a5352 u5353 h5354 h5355 h5356 h6592 h6847 a7102 h7103 h7348 h7593 w7594 w7595 r7596 r7597 r7598 h7599 h7619 h7620 h7640 h7685 w7710 w7711 w7712 w7714 w7715 w7717 w7716 w7718 w7720 w7721 w7722 w7724 w7723 w7726 w7727 w7728 w7729 w7730 w7732 w7731 w7733 w7737 w7736 a7738 ⊢) <;> (try simp only [zz, Int32.reduceToInt, ne_eq] at u5318 xq2 h5319 xq12 h5332 xq14 a5352 u5353 h5354 h5355 h5356 h6592 h6847 a7102 h7103 h7348 h7593 w7594 w7595 r7596 r7597 r7598 h7599 h7619 h7620 h7640 h7685 w7710 w7711 w7712 w7714 w7715 w7717 w7716 w7718 w7720 w7721 w7722 w7724 w7723 w7726 w7727 w7728 w7729 w7730 w7732 w7731 w7733 w7737 w7736 a7738 ⊢) <;> (try simp (disch := omega) only [zb] at u5318 xq2 h5319 xq12 h5332 xq14 a5352 u5353 h5354 h5355 h5356 h6592 h6847 a7102 h7103 h7348 h7593 w7594 w7595 r7596 r7597 r7598 h7599 h7619 h7620 h7640 h7685 w7710 w7711 w7712 w7714 w7715 w7717 w7716 w7718 w7720 w7721 w7722 w7724 w7723 w7726 w7727 w7728 w7729 w7730 w7732 w7731 w7733 w7737 w7736 a7738 ⊢) <;> first | omega | ((try simp (disch := omega) only [zb] at u5318 xq2 h5319 xq12 h5332 xq14 a5352 u5353 h5354 h5355 h5356 h6592 h6847 a7102 h7103 h7348 h7593 w7594 w7595 r7596 r7597 r7598 h7599 h7619 h7620 h7640 h7685 w7710 w7711 w7712 w7714 w7715 w7717 w7716 w7718 w7720 w7721 w7722 w7724 w7723 w7726 w7727 w7728 w7729 w7730 w7732 w7731 w7733 w7737 w7736 a7738 ⊢) <;> omega))⟩
                        · unfold fX9_pair_250
                          refine sw_ite (fun h7739 => ?_) (fun h7739 => ?_)
                          · unfold fX9_pair_264
                            refine sw_ite (fun h7740 => ?_) (fun h7740 => ?_)
                            · have w7741 : mm_I s11 p0 0 = mm_I q2.2 p0 0 := by rw [← es11]; exact rd_k t_p0 tq5 (by decide)
                              have w7744 : rdA s11 p0 9 1 = mm_I s11 q17 ((1 : Int32)).toNatClampNeg := rdA_eq eq17
                              have w7743 : rdA s11 p0 9 1 = rdA q2.2 p0 9 1 := by rw [← es11]; exact rdA_k cq2 t_p0 (κ' := 59) rfl tq5 (by decide)
                              have w7745 := rdA_fr (k := 9) (j := 1) gq2 c0 t_p0 (κ' := 59) rfl rfl rfl
                              have w7747 : rdA s11 p0 10 1 = rdA q2.2 p0 10 1 := by rw [← es11]; exact rdA_j (by decide)
                              have w7749 : rdA q2.2 p0 10 1 = mm_I q2.2 q5 ((1 : Int32)).toNatClampNeg := rdA_eq eq5
                              have w7748 := rdA_fr (k := 10) (j := 1) gq2 c0 t_p0 (κ' := 60) rfl rfl rfl
                              have w7751 : rdA s11 p0 10 0 = -1 := by rw [← es11]; exact rdA_self eq5
                              have w7753 : rdA s11 p0 9 0 = mm_I s11 q17 ((0 : Int32)).toNatClampNeg := rdA_eq eq17
                              have w7752 : rdA s11 p0 9 0 = rdA q2.2 p0 9 0 := by rw [← es11]; exact rdA_k cq2 t_p0 (κ' := 59) rfl tq5 (by decide)
                              have w7754 := rdA_fr (k := 9) (j := 0) gq2 c0 t_p0 (κ' := 59) rfl rfl rfl
                              have w7758 : rdA q2.2 p0 10 0 = mm_I q2.2 q5 ((0 : Int32)).toNatClampNeg := rdA_eq eq5
                              have w7757 := rdA_fr (k := 10) (j := 0) gq2 c0 t_p0 (κ' := 60) rfl rfl rfl
                              have a7759 := zi_and p2 8 (by decide)
                              exact sw_some ⟨cs11, fs11, (by (try simp only [zp, zo, zq] at u5318 xq2 h5319 xq12 h5332 xq14 a5352 u5353 h5354 h5355 h5356 h6592 h6847 a7102 h7103 h7348 h7593 w7594 w7595 r7596 r7597 r7598 h7599 h7619 h7739 h7740 w7741 w7744 w7743 w7745 w7747 w7749 w7748 w7751 w7753 w7752 w7754 w7758 w7757 a7759 ⊢) <;> (try simp only [zz, Int32.reduceToInt, ne_eq] at u5318 xq2 h5319 xq12 h5332 xq14 a5352 u5353 h5354 h5355 h5356 h6592 h6847 a7102 h7103 h7348 h7593 w7594 w7595 r7596 r7597 r7598 h7599 h7619 h7739 h7740 w7741 w7744 w7743 w7745 w7747 w7749 w7748 w7751 w7753 w7752 w7754 w7758 w7757 a7759 ⊢) <;> (try simp (disch := omega) only [zb] at u5318 xq2 h5319 xq12 h5332 xq14 a5352 u5353 h5354 h5355 h5356 h6592 h6847 a7102 h7103 h7348 h7593 w7594 w7595 r7596 r7597 r7598 h7599 h7619 h7739 h7740 w7741 w7744 w7743 w7745 w7747 w7749 w7748 w7751 w7753 w7752 w7754 w7758 w7757 a7759 ⊢) <;> first | omega | ((try simp (disch := omega) only [zb] at u5318 xq2 h5319 xq12 h5332 xq14 a5352 u5353 h5354 h5355 h5356 h6592 h6847 a7102 h7103 h7348 h7593 w7594 w7595 r7596 r7597 r7598 h7599 h7619 h7739 h7740 w7741 w7744 w7743 w7745 w7747 w7749 w7748 w7751 w7753 w7752 w7754 w7758 w7757 a7759 ⊢) <;> omega))⟩
                            · refine sw_sh (ci_sh cs11 t_p0 rfl) ?_
                              refine sw_on (sX9_put cs11 t_p0 (by (try simp only [zp, zo, zq] at u5318 xq2 h5319 xq12 h5332 xq14 a5352 u5353 h5354 h5355 h5356 h6592 h6847 a7102 h7103 h7348 h7593 w7594 w7595 r7596 r7597 r7598 h7599 h7619 h7739 h7740 ⊢) <;> (try simp only [zz, Int32.reduceToInt, ne_eq] at u5318 xq2 h5319 xq12 h5332 xq14 a5352 u5353 h5354 h5355 h5356 h6592 h6847 a7102 h7103 h7348 h7593 w7594 w7595 r7596 r7597 r7598 h7599 h7619 h7739 h7740 ⊢) <;> (try simp (disch := omega) only [zb] at u5318 xq2 h5319 xq12 h5332 xq14 a5352 u5353 h5354 h5355 h5356 h6592 h6847 a7102 h7103 h7348 h7593 w7594 w7595 r7596 r7597 r7598 h7599 h7619 h7739 h7740 ⊢) <;> first | omega | ((try simp (disch := omega) only [zb] at u5318 xq2 h5319 xq12 h5332 xq14 a5352 u5353 h5354 h5355 h5356 h6592 h6847 a7102 h7103 h7348 h7593 w7594 w7595 r7596 r7597 r7598 h7599 h7619 h7739 h7740 ⊢) <;> omega)) ) ?_
                              intro q28 hqq28
                              obtain ⟨cq28, gq28, xq28⟩ := hqq28
                              have fq28 := fr_trans fs11 gq28 rfl
                              have w7760 := (gq28.2.2 _ _ t_p0 0 rfl).1
                              have w7761 : mm_I s11 p0 0 = mm_I q2.2 p0 0 := by rw [← es11]; exact rd_k t_p0 tq5 (by decide)
                              have w7763 := rdA_fr (k := 9) (j := 1) gq28 cs11 t_p0 (κ' := 59) rfl rfl rfl
                              have w7765 : rdA s11 p0 9 1 = mm_I s11 q17 ((1 : Int32)).toNatClampNeg := rdA_eq eq17
                              have w7764 : rdA s11 p0 9 1 = rdA q2.2 p0 9 1 := by rw [← es11]; exact rdA_k cq2 t_p0 (κ' := 59) rfl tq5 (by decide)
                              have w7766 := rdA_fr (k := 9) (j := 1) gq2 c0 t_p0 (κ' := 59) rfl rfl rfl
                              have w7768 := rdA_fr (k := 10) (j := 1) gq28 cs11 t_p0 (κ' := 60) rfl rfl rfl
                              have w7769 : rdA s11 p0 10 1 = rdA q2.2 p0 10 1 := by rw [← es11]; exact rdA_j (by decide)
                              have w7771 : rdA q2.2 p0 10 1 = mm_I q2.2 q5 ((1 : Int32)).toNatClampNeg := rdA_eq eq5
                              have w7770 := rdA_fr (k := 10) (j := 1) gq2 c0 t_p0 (κ' := 60) rfl rfl rfl
                              have w7773 := rdA_fr (k := 10) (j := 0) gq28 cs11 t_p0 (κ' := 60) rfl rfl rfl
                              have w7774 : rdA s11 p0 10 0 = -1 := by rw [← es11]; exact rdA_self eq5
                              have w7775 := rdA_fr (k := 9) (j := 0) gq28 cs11 t_p0 (κ' := 59) rfl rfl rfl
                              have w7777 : rdA s11 p0 9 0 = mm_I s11 q17 ((0 : Int32)).toNatClampNeg := rdA_eq eq17
                              have w7776 : rdA s11 p0 9 0 = rdA q2.2 p0 9 0 := by rw [← es11]; exact rdA_k cq2 t_p0 (κ' := 59) rfl tq5 (by decide)
                              have w7778 := rdA_fr (k := 9) (j := 0) gq2 c0 t_p0 (κ' := 59) rfl rfl rfl
                              have w7782 : rdA q2.2 p0 10 0 = mm_I q2.2 q5 ((0 : Int32)).toNatClampNeg := rdA_eq eq5
                              have w7781 := rdA_fr (k := 10) (j := 0) gq2 c0 t_p0 (κ' := 60) rfl rfl rfl
                              have a7783 := zi_and p2 8 (by decide)
                              exact sw_some ⟨cq28, fq28, (by (try simp only [zp, zo, zq] at u5318 xq2 h5319 xq12 h5332 xq14 a5352 u5353 h5354 h5355 h5356 h6592 h6847 a7102 h7103 h7348 h7593 w7594 w7595 r7596 r7597 r7598 h7599 h7619 h7739 h7740 w7760 w7761 w7763 w7765 w7764 w7766 w7768 w7769 w7771 w7770 w7773 w7774 w7775 w7777 w7776 w7778 w7782 w7781 a7783 ⊢) <;> (try simp only [zz, Int32.reduceToInt, ne_eq] at u5318 xq2 h5319 xq12 h5332 xq14 a5352 u5353 h5354 h5355 h5356 h6592 h6847 a7102 h7103 h7348 h7593 w7594 w7595 r7596 r7597 r7598 h7599 h7619 h7739 h7740 w7760 w7761 w7763 w7765 w7764 w7766 w7768 w7769 w7771 w7770 w7773 w7774 w7775 w7777 w7776 w7778 w7782 w7781 a7783 ⊢) <;> (try simp (disch := omega) only [zb] at u5318 xq2 h5319 xq12 h5332 xq14 a5352 u5353 h5354 h5355 h5356 h6592 h6847 a7102 h7103 h7348 h7593 w7594 w7595 r7596 r7597 r7598 h7599 h7619 h7739 h7740 w7760 w7761 w7763 w7765 w7764 w7766 w7768 w7769 w7771 w7770 w7773 w7774 w7775 w7777 w7776 w7778 w7782 w7781 a7783 ⊢) <;> first | omega | ((try simp (disch := omega) only [zb] at u5318 xq2 h5319 xq12 h5332 xq14 a5352 u5353 h5354 h5355 h5356 h6592 h6847 a7102 h7103 h7348 h7593 w7594 w7595 r7596 r7597 r7598 h7599 h7619 h7739 h7740 w7760 w7761 w7763 w7765 w7764 w7766 w7768 w7769 w7771 w7770 w7773 w7774 w7775 w7777 w7776 w7778 w7782 w7781 a7783 ⊢) <;> omega))⟩
                          · refine sw_sh (ci_sh cs11 t_p0 rfl) ?_
                            refine sw_on (sX9_put cs11 t_p0 (by (try simp only [zp, zo, zq] at u5318 xq2 h5319 xq12 h5332 xq14 a5352 u5353 h5354 h5355 h5356 h6592 h6847 a7102 h7103 h7348 h7593 w7594 w7595 r7596 r7597 r7598 h7599 h7619 h7739 ⊢) <;> (try simp only [zz, Int32.reduceToInt, ne_eq] at u5318 xq2 h5319 xq12 h5332 xq14 a5352 u5353 h5354 h5355 h5356 h6592 h6847 a7102 h7103 h7348 h7593 w7594 w7595 r7596 r7597 r7598 h7599 h7619 h7739 ⊢) <;> (try simp (disch := omega) only [zb] at u5318 xq2 h5319 xq12 h5332 xq14 a5352 u5353 h5354 h5355 h5356 h6592 h6847 a7102 h7103 h7348 h7593 w7594 w7595 r7596 r7597 r7598 h7599 h7619 h7739 ⊢) <;> first | omega | ((try simp (disch := omega) only [zb] at u5318 xq2 h5319 xq12 h5332 xq14 a5352 u5353 h5354 h5355 h5356 h6592 h6847 a7102 h7103 h7348 h7593 w7594 w7595 r7596 r7597 r7598 h7599 h7619 h7739 ⊢) <;> omega)) ) ?_
                            intro q30 hqq30
                            obtain ⟨cq30, gq30, xq30⟩ := hqq30
                            have fq30 := fr_trans fs11 gq30 rfl
                            unfold fX9_pair_264
                            refine sw_ite (fun h7784 => ?_) (fun h7784 => ?_)
                            · have w7785 := (gq30.2.2 _ _ t_p0 0 rfl).1
                              have w7786 : mm_I s11 p0 0 = mm_I q2.2 p0 0 := by rw [← es11]; exact rd_k t_p0 tq5 (by decide)
                              have w7788 := rdA_fr (k := 9) (j := 1) gq30 cs11 t_p0 (κ' := 59) rfl rfl rfl
                              have w7790 : rdA s11 p0 9 1 = mm_I s11 q17 ((1 : Int32)).toNatClampNeg := rdA_eq eq17
                              have w7789 : rdA s11 p0 9 1 = rdA q2.2 p0 9 1 := by rw [← es11]; exact rdA_k cq2 t_p0 (κ' := 59) rfl tq5 (by decide)
                              have w7791 := rdA_fr (k := 9) (j := 1) gq2 c0 t_p0 (κ' := 59) rfl rfl rfl
                              have w7793 := rdA_fr (k := 10) (j := 1) gq30 cs11 t_p0 (κ' := 60) rfl rfl rfl
                              have w7794 : rdA s11 p0 10 1 = rdA q2.2 p0 10 1 := by rw [← es11]; exact rdA_j (by decide)
                              have w7796 : rdA q2.2 p0 10 1 = mm_I q2.2 q5 ((1 : Int32)).toNatClampNeg := rdA_eq eq5
                              have w7795 := rdA_fr (k := 10) (j := 1) gq2 c0 t_p0 (κ' := 60) rfl rfl rfl
                              have w7798 := rdA_fr (k := 10) (j := 0) gq30 cs11 t_p0 (κ' := 60) rfl rfl rfl
                              have w7799 : rdA s11 p0 10 0 = -1 := by rw [← es11]; exact rdA_self eq5
                              have w7800 := rdA_fr (k := 9) (j := 0) gq30 cs11 t_p0 (κ' := 59) rfl rfl rfl
                              have w7802 : rdA s11 p0 9 0 = mm_I s11 q17 ((0 : Int32)).toNatClampNeg := rdA_eq eq17
                              have w7801 : rdA s11 p0 9 0 = rdA q2.2 p0 9 0 := by rw [← es11]; exact rdA_k cq2 t_p0 (κ' := 59) rfl tq5 (by decide)
                              have w7803 := rdA_fr (k := 9) (j := 0) gq2 c0 t_p0 (κ' := 59) rfl rfl rfl
                              have w7807 : rdA q2.2 p0 10 0 = mm_I q2.2 q5 ((0 : Int32)).toNatClampNeg := rdA_eq eq5
                              have w7806 := rdA_fr (k := 10) (j := 0) gq2 c0 t_p0 (κ' := 60) rfl rfl rfl
                              have a7808 := zi_and p2 8 (by decide)
                              exact sw_some ⟨cq30, fq30, (by (try simp only [zp, zo, zq] at u5318 xq2 h5319 xq12 h5332 xq14 a5352 u5353 h5354 h5355 h5356 h6592 h6847 a7102 h7103 h7348 h7593 w7594 w7595 r7596 r7597 r7598 h7599 h7619 h7739 h7784 w7785 w7786 w7788 w7790 w7789 w7791 w7793 w7794 w7796 w7795 w7798 w7799 w7800 w7802 w7801 w7803 w7807 w7806 a7808 ⊢) <;> (try simp only [zz, Int32.reduceToInt, ne_eq] at u5318 xq2 h5319 xq12 h5332 xq14 a5352 u5353 h5354 h5355 h5356 h6592 h6847 a7102 h7103 h7348 h7593 w7594 w7595 r7596 r7597 r7598 h7599 h7619 h7739 h7784 w7785 w7786 w7788 w7790 w7789 w7791 w7793 w7794 w7796 w7795 w7798 w7799 w7800 w7802 w7801 w7803 w7807 w7806 a7808 ⊢) <;> (try simp (disch := omega) only [zb] at u5318 xq2 h5319 xq12 h5332 xq14 a5352 u5353 h5354 h5355 h5356 h6592 h6847 a7102 h7103 h7348 h7593 w7594 w7595 r7596 r7597 r7598 h7599 h7619 h7739 h7784 w7785 w7786 w7788 w7790 w7789 w7791 w7793 w7794 w7796 w7795 w7798 w7799 w7800 w7802 w7801 w7803 w7807 w7806 a7808 ⊢) <;> first | omega | ((try simp (disch := omega) only [zb] at u5318 xq2 h5319 xq12 h5332 xq14 a5352 u5353 h5354 h5355 h5356 h6592 h6847 a7102 h7103 h7348 h7593 w7594 w7595 r7596 r7597 r7598 h7599 h7619 h7739 h7784 w7785 w7786 w7788 w7790 w7789 w7791 w7793 w7794 w7796 w7795 w7798 w7799 w7800 w7802 w7801 w7803 w7807 w7806 a7808 ⊢) <;> omega))⟩
                            · refine sw_sh (ci_sh cq30 t_p0 rfl) ?_
                              refine sw_on (sX9_put cq30 t_p0 (by (try simp only [zp, zo, zq] at u5318 xq2 h5319 xq12 h5332 xq14 a5352 u5353 h5354 h5355 h5356 h6592 h6847 a7102 h7103 h7348 h7593 w7594 w7595 r7596 r7597 r7598 h7599 h7619 h7739 h7784 ⊢) <;> (try simp only [zz, Int32.reduceToInt, ne_eq] at u5318 xq2 h5319 xq12 h5332 xq14 a5352 u5353 h5354 h5355 h5356 h6592 h6847 a7102 h7103 h7348 h7593 w7594 w7595 r7596 r7597 r7598 h7599 h7619 h7739 h7784 ⊢) <;> (try simp (disch := omega) only [zb] at u5318 xq2 h5319 xq12 h5332 xq14 a5352 u5353 h5354 h5355 h5356 h6592 h6847 a7102 h7103 h7348 h7593 w7594 w7595 r7596 r7597 r7598 h7599 h7619 h7739 h7784 ⊢) <;> first | omega | ((try simp (disch := omega) only [zb] at u5318 xq2 h5319 xq12 h5332 xq14 a5352 u5353 h5354 h5355 h5356 h6592 h6847 a7102 h7103 h7348 h7593 w7594 w7595 r7596 r7597 r7598 h7599 h7619 h7739 h7784 ⊢) <;> omega)) ) ?_
                              intro q28 hqq28
                              obtain ⟨cq28, gq28, xq28⟩ := hqq28
                              have fq28 := fr_trans fq30 gq28 rfl
                              have w7809 := (gq28.2.2 _ _ t_p0 0 rfl).1
                              have w7810 := (gq30.2.2 _ _ t_p0 0 rfl).1
                              have w7811 : mm_I s11 p0 0 = mm_I q2.2 p0 0 := by rw [← es11]; exact rd_k t_p0 tq5 (by decide)
                              have w7813 := rdA_fr (k := 9) (j := 1) gq28 cq30 t_p0 (κ' := 59) rfl rfl rfl
                              have w7814 := rdA_fr (k := 9) (j := 1) gq30 cs11 t_p0 (κ' := 59) rfl rfl rfl
                              have w7816 : rdA s11 p0 9 1 = mm_I s11 q17 ((1 : Int32)).toNatClampNeg := rdA_eq eq17
                              have w7815 : rdA s11 p0 9 1 = rdA q2.2 p0 9 1 := by rw [← es11]; exact rdA_k cq2 t_p0 (κ' := 59) rfl tq5 (by decide)
                              have w7817 := rdA_fr (k := 9) (j := 1) gq2 c0 t_p0 (κ' := 59) rfl rfl rfl
                              have w7819 := rdA_fr (k := 10) (j := 1) gq28 cq30 t_p0 (κ' := 60) rfl rfl rfl
                              have w7820 := rdA_fr (k := 10) (j := 1) gq30 cs11 t_p0 (κ' := 60) rfl rfl rfl
                              have w7821 : rdA s11 p0 10 1 = rdA q2.2 p0 10 1 := by rw [← es11]; exact rdA_j (by decide)
                              have w7823 : rdA q2.2 p0 10 1 = mm_I q2.2 q5 ((1 : Int32)).toNatClampNeg := rdA_eq eq5
                              have w7822 := rdA_fr (k := 10) (j := 1) gq2 c0 t_p0 (κ' := 60) rfl rfl rfl
                              have w7825 := rdA_fr (k := 10) (j := 0) gq28 cq30 t_p0 (κ' := 60) rfl rfl rfl
                              have w7826 := rdA_fr (k := 10) (j := 0) gq30 cs11 t_p0 (κ' := 60) rfl rfl rfl
                              have w7827 : rdA s11 p0 10 0 = -1 := by rw [← es11]; exact rdA_self eq5
                              have w7828 := rdA_fr (k := 9) (j := 0) gq28 cq30 t_p0 (κ' := 59) rfl rfl rfl
                              have w7829 := rdA_fr (k := 9) (j := 0) gq30 cs11 t_p0 (κ' := 59) rfl rfl rfl
                              have w7831 : rdA s11 p0 9 0 = mm_I s11 q17 ((0 : Int32)).toNatClampNeg := rdA_eq eq17
                              have w7830 : rdA s11 p0 9 0 = rdA q2.2 p0 9 0 := by rw [← es11]; exact rdA_k cq2 t_p0 (κ' := 59) rfl tq5 (by decide)
                              have w7832 := rdA_fr (k := 9) (j := 0) gq2 c0 t_p0 (κ' := 59) rfl rfl rfl
                              have w7836 : rdA q2.2 p0 10 0 = mm_I q2.2 q5 ((0 : Int32)).toNatClampNeg := rdA_eq eq5
                              have w7835 := rdA_fr (k := 10) (j := 0) gq2 c0 t_p0 (κ' := 60) rfl rfl rfl
                              have a7837 := zi_and p2 8 (by decide)
                              exact sw_some ⟨cq28, fq28, (by (try simp only [zp, zo, zq] at u5318 xq2 h5319 xq12 h5332 xq14 a5352 u5353 h5354 h5355 h5356 h6592 h6847 a7102 h7103 h7348 h7593 w7594 w7595 r7596 r7597 r7598 h7599 h7619 h7739 h7784 w7809 w7810 w7811 w7813 w7814 w7816 w7815 w7817 w7819 w7820 w7821 w7823 w7822 w7825 w7826 w7827 w7828 w7829 w7831 w7830 w7832 w7836 w7835 a7837 ⊢) <;> (try simp only [zz, Int32.reduceToInt, ne_eq] at u5318 xq2 h5319 xq12 h5332 xq14 a5352 u5353 h5354 h5355 h5356 h6592 h6847 a7102 h7103 h7348 h7593 w7594 w7595 r7596 r7597 r7598 h7599 h7619 h7739 h7784 w7809 w7810 w7811 w7813 w7814 w7816 w7815 w7817 w7819 w7820 w7821 w7823 w7822 w7825 w7826 w7827 w7828 w7829 w7831 w7830 w7832 w7836 w7835 a7837 ⊢) <;> (try simp (disch := omega) only [zb] at u5318 xq2 h5319 xq12 h5332 xq14 a5352 u5353 h5354 h5355 h5356 h6592 h6847 a7102 h7103 h7348 h7593 w7594 w7595 r7596 r7597 r7598 h7599 h7619 h7739 h7784 w7809 w7810 w7811 w7813 w7814 w7816 w7815 w7817 w7819 w7820 w7821 w7823 w7822 w7825 w7826 w7827 w7828 w7829 w7831 w7830 w7832 w7836 w7835 a7837 ⊢) <;> first | omega | ((try simp (disch := omega) only [zb] at u5318 xq2 h5319 xq12 h5332 xq14 a5352 u5353 h5354 h5355 h5356 h6592 h6847 a7102 h7103 h7348 h7593 w7594 w7595 r7596 r7597 r7598 h7599 h7619 h7739 h7784 w7809 w7810 w7811 w7813 w7814 w7816 w7815 w7817 w7819 w7820 w7821 w7823 w7822 w7825 w7826 w7827 w7828 w7829 w7831 w7830 w7832 w7836 w7835 a7837 ⊢) <;> omega))⟩
                    · unfold fX9_pair_227
                      unfold fX9_pair_228
                      have w7838 : mm_I s11 q17 ((0 : Int32).toNatClampNeg) = mm_I q2.2 q17 ((0 : Int32).toNatClampNeg) := by rw [← es11]; exact rd_k tq17 tq5 (by decide)
                      have w7839 := (gq2.2.2 _ _ tq17 ((0 : Int32).toNatClampNeg) rfl).1
                      have r7840 := ci_rg c0 tq17 ((0 : Int32).toNatClampNeg) (lo := (-1)) (hi := 3) rfl
                      have r7841 := ci_rg cq2 tq17 ((0 : Int32).toNatClampNeg) (lo := (-1)) (hi := 3) rfl
                      have r7842 := ci_rg cs11 tq17 ((0 : Int32).toNatClampNeg) (lo := (-1)) (hi := 3) rfl
                      refine sw_ite (fun h7843 => ?_) (fun h7843 => ?_)
                      · have w7844 : mm_I s11 p0 0 = mm_I q2.2 p0 0 := by rw [← es11]; exact rd_k t_p0 tq5 (by decide)
                        have w7847 : rdA s11 p0 9 1 = mm_I s11 q17 ((1 : Int32)).toNatClampNeg := rdA_eq eq17
                        have w7846 : rdA s11 p0 9 1 = rdA q2.2 p0 9 1 := by rw [← es11]; exact rdA_k cq2 t_p0 (κ' := 59) rfl tq5 (by decide)
                        have w7848 := rdA_fr (k := 9) (j := 1) gq2 c0 t_p0 (κ' := 59) rfl rfl rfl
                        have w7850 : rdA s11 p0 10 1 = rdA q2.2 p0 10 1 := by rw [← es11]; exact rdA_j (by decide)
                        have w7852 : rdA q2.2 p0 10 1 = mm_I q2.2 q5 ((1 : Int32)).toNatClampNeg := rdA_eq eq5
                        have w7851 := rdA_fr (k := 10) (j := 1) gq2 c0 t_p0 (κ' := 60) rfl rfl rfl
                        have w7854 : rdA s11 p0 10 0 = -1 := by rw [← es11]; exact rdA_self eq5
                        have w7856 : rdA s11 p0 9 0 = mm_I s11 q17 ((0 : Int32)).toNatClampNeg := rdA_eq eq17
                        have w7855 : rdA s11 p0 9 0 = rdA q2.2 p0 9 0 := by rw [← es11]; exact rdA_k cq2 t_p0 (κ' := 59) rfl tq5 (by decide)
                        have w7857 := rdA_fr (k := 9) (j := 0) gq2 c0 t_p0 (κ' := 59) rfl rfl rfl
                        have w7861 : rdA q2.2 p0 10 0 = mm_I q2.2 q5 ((0 : Int32)).toNatClampNeg := rdA_eq eq5
                        have w7860 := rdA_fr (k := 10) (j := 0) gq2 c0 t_p0 (κ' := 60) rfl rfl rfl
                        have a7862 := zi_and p2 8 (by decide)
                        exact sw_some ⟨cs11, fs11, (by (try simp only [zp, zo, zq] at u5318 xq2 h5319 xq12 h5332 xq14 a5352 u5353 h5354 h5355 h5356 h6592 h6847 a7102 h7103 h7348 h7593 w7838 w7839 r7840 r7841 r7842 h7843 w7844 w7847 w7846 w7848 w7850 w7852 w7851 w7854 w7856 w7855 w7857 w7861 w7860 a7862 ⊢) <;> (try simp only [zz, Int32.reduceToInt, ne_eq] at u5318 xq2 h5319 xq12 h5332 xq14 a5352 u5353 h5354 h5355 h5356 h6592 h6847 a7102 h7103 h7348 h7593 w7838 w7839 r7840 r7841 r7842 h7843 w7844 w7847 w7846 w7848 w7850 w7852 w7851 w7854 w7856 w7855 w7857 w7861 w7860 a7862 ⊢) <;> (try simp (disch := omega) only [zb] at u5318 xq2 h5319 xq12 h5332 xq14 a5352 u5353 h5354 h5355 h5356 h6592 h6847 a7102 h7103 h7348 h7593 w7838 w7839 r7840 r7841 r7842 h7843 w7844 w7847 w7846 w7848 w7850 w7852 w7851 w7854 w7856 w7855 w7857 w7861 w7860 a7862 ⊢) <;> first | omega | ((try simp (disch := omega) only [zb] at u5318 xq2 h5319 xq12 h5332 xq14 a5352 u5353 h5354 h5355 h5356 h6592 h6847 a7102 h7103 h7348 h7593 w7838 w7839 r7840 r7841 r7842 h7843 w7844 w7847 w7846 w7848 w7850 w7852 w7851 w7854 w7856 w7855 w7857 w7861 w7860 a7862 ⊢) <;> omega))⟩
                      · refine sw_ite (fun h7863 => ?_) (fun h7863 => ?_)
                        · refine sw_ite (fun h7864 => ?_) (fun h7864 => ?_)
                          · have w7865 : mm_I s11 p0 0 = mm_I q2.2 p0 0 := by rw [← es11]; exact rd_k t_p0 tq5 (by decide)
                            have w7868 : rdA s11 p0 9 1 = mm_I s11 q17 ((1 : Int32)).toNatClampNeg := rdA_eq eq17
                            have w7867 : rdA s11 p0 9 1 = rdA q2.2 p0 9 1 := by rw [← es11]; exact rdA_k cq2 t_p0 (κ' := 59) rfl tq5 (by decide)
                            have w7869 := rdA_fr (k := 9) (j := 1) gq2 c0 t_p0 (κ' := 59) rfl rfl rfl
                            have w7871 : rdA s11 p0 10 1 = rdA q2.2 p0 10 1 := by rw [← es11]; exact rdA_j (by decide)
                            have w7873 : rdA q2.2 p0 10 1 = mm_I q2.2 q5 ((1 : Int32)).toNatClampNeg := rdA_eq eq5
                            have w7872 := rdA_fr (k := 10) (j := 1) gq2 c0 t_p0 (κ' := 60) rfl rfl rfl
                            have w7875 : rdA s11 p0 10 0 = -1 := by rw [← es11]; exact rdA_self eq5
                            have w7877 : rdA s11 p0 9 0 = mm_I s11 q17 ((0 : Int32)).toNatClampNeg := rdA_eq eq17
                            have w7876 : rdA s11 p0 9 0 = rdA q2.2 p0 9 0 := by rw [← es11]; exact rdA_k cq2 t_p0 (κ' := 59) rfl tq5 (by decide)
                            have w7878 := rdA_fr (k := 9) (j := 0) gq2 c0 t_p0 (κ' := 59) rfl rfl rfl
                            have w7882 : rdA q2.2 p0 10 0 = mm_I q2.2 q5 ((0 : Int32)).toNatClampNeg := rdA_eq eq5
                            have w7881 := rdA_fr (k := 10) (j := 0) gq2 c0 t_p0 (κ' := 60) rfl rfl rfl
                            have a7883 := zi_and p2 8 (by decide)
                            exact sw_some ⟨cs11, fs11, (by (try simp only [zp, zo, zq] at u5318 xq2 h5319 xq12 h5332 xq14 a5352 u5353 h5354 h5355 h5356 h6592 h6847 a7102 h7103 h7348 h7593 w7838 w7839 r7840 r7841 r7842 h7843 h7863 h7864 w7865 w7868 w7867 w7869 w7871 w7873 w7872 w7875 w7877 w7876 w7878 w7882 w7881 a7883 ⊢) <;> (try simp only [zz, Int32.reduceToInt, ne_eq] at u5318 xq2 h5319 xq12 h5332 xq14 a5352 u5353 h5354 h5355 h5356 h6592 h6847 a7102 h7103 h7348 h7593 w7838 w7839 r7840 r7841 r7842 h7843 h7863 h7864 w7865 w7868 w7867 w7869 w7871 w7873 w7872 w7875 w7877 w7876 w7878 w7882 w7881 a7883 ⊢) <;> (try simp (disch := omega) only [zb] at u5318 xq2 h5319 xq12 h5332 xq14 a5352 u5353 h5354 h5355 h5356 h6592 h6847 a7102 h7103 h7348 h7593 w7838 w7839 r7840 r7841 r7842 h7843 h7863 h7864 w7865 w7868 w7867 w7869 w7871 w7873 w7872 w7875 w7877 w7876 w7878 w7882 w7881 a7883 ⊢) <;> first | omega | ((try simp (disch := omega) only [zb] at u5318 xq2 h5319 xq12 h5332 xq14 a5352 u5353 h5354 h5355 h5356 h6592 h6847 a7102 h7103 h7348 h7593 w7838 w7839 r7840 r7841 r7842 h7843 h7863 h7864 w7865 w7868 w7867 w7869 w7871 w7873 w7872 w7875 w7877 w7876 w7878 w7882 w7881 a7883 ⊢) <;> omega))⟩
                          · unfold fX9_pair_250
                            refine sw_ite (fun h7884 => ?_) (fun h7884 => ?_)
                            · unfold fX9_pair_264
                              refine sw_ite (fun h7885 => ?_) (fun h7885 => ?_)
                              · have w7886 : mm_I s11 p0 0 = mm_I q2.2 p0 0 := by rw [← es11]; exact rd_k t_p0 tq5 (by decide)
                                have w7889 : rdA s11 p0 9 1 = mm_I s11 q17 ((1 : Int32)).toNatClampNeg := rdA_eq eq17
                                have w7888 : rdA s11 p0 9 1 = rdA q2.2 p0 9 1 := by rw [← es11]; exact rdA_k cq2 t_p0 (κ' := 59) rfl tq5 (by decide)
                                have w7890 := rdA_fr (k := 9) (j := 1) gq2 c0 t_p0 (κ' := 59) rfl rfl rfl
                                have w7892 : rdA s11 p0 10 1 = rdA q2.2 p0 10 1 := by rw [← es11]; exact rdA_j (by decide)
                                have w7894 : rdA q2.2 p0 10 1 = mm_I q2.2 q5 ((1 : Int32)).toNatClampNeg := rdA_eq eq5
                                have w7893 := rdA_fr (k := 10) (j := 1) gq2 c0 t_p0 (κ' := 60) rfl rfl rfl
                                have w7896 : rdA s11 p0 10 0 = -1 := by rw [← es11]; exact rdA_self eq5
                                have w7898 : rdA s11 p0 9 0 = mm_I s11 q17 ((0 : Int32)).toNatClampNeg := rdA_eq eq17
                                have w7897 : rdA s11 p0 9 0 = rdA q2.2 p0 9 0 := by rw [← es11]; exact rdA_k cq2 t_p0 (κ' := 59) rfl tq5 (by decide)
                                have w7899 := rdA_fr (k := 9) (j := 0) gq2 c0 t_p0 (κ' := 59) rfl rfl rfl
                                have w7903 : rdA q2.2 p0 10 0 = mm_I q2.2 q5 ((0 : Int32)).toNatClampNeg := rdA_eq eq5
                                have w7902 := rdA_fr (k := 10) (j := 0) gq2 c0 t_p0 (κ' := 60) rfl rfl rfl
                                have a7904 := zi_and p2 8 (by decide)
                                exact sw_some ⟨cs11, fs11, (by (try simp only [zp, zo, zq] at u5318 xq2 h5319 xq12 h5332 xq14 a5352 u5353 h5354 h5355 h5356 h6592 h6847 a7102 h7103 h7348 h7593 w7838 w7839 r7840 r7841 r7842 h7843 h7863 h7864 h7884 h7885 w7886 w7889 w7888 w7890 w7892 w7894 w7893 w7896 w7898 w7897 w7899 w7903 w7902 a7904 ⊢) <;> (try simp only [zz, Int32.reduceToInt, ne_eq] at u5318 xq2 h5319 xq12 h5332 xq14 a5352 u5353 h5354 h5355 h5356 h6592 h6847 a7102 h7103 h7348 h7593 w7838 w7839 r7840 r7841 r7842 h7843 h7863 h7864 h7884 h7885 w7886 w7889 w7888 w7890 w7892 w7894 w7893 w7896 w7898 w7897 w7899 w7903 w7902 a7904 ⊢) <;> (try simp (disch := omega) only [zb] at u5318 xq2 h5319 xq12 h5332 xq14 a5352 u5353 h5354 h5355 h5356 h6592 h6847 a7102 h7103 h7348 h7593 w7838 w7839 r7840 r7841 r7842 h7843 h7863 h7864 h7884 h7885 w7886 w7889 w7888 w7890 w7892 w7894 w7893 w7896 w7898 w7897 w7899 w7903 w7902 a7904 ⊢) <;> first | omega | ((try simp (disch := omega) only [zb] at u5318 xq2 h5319 xq12 h5332 xq14 a5352 u5353 h5354 h5355 h5356 h6592 h6847 a7102 h7103 h7348 h7593 w7838 w7839 r7840 r7841 r7842 h7843 h7863 h7864 h7884 h7885 w7886 w7889 w7888 w7890 w7892 w7894 w7893 w7896 w7898 w7897 w7899 w7903 w7902 a7904 ⊢) <;> omega))⟩
                              · refine sw_sh (ci_sh cs11 t_p0 rfl) ?_
                                refine sw_on (sX9_put cs11 t_p0 (by (try simp only [zp, zo, zq] at u5318 xq2 h5319 xq12 h5332 xq14 a5352 u5353 h5354 h5355 h5356 h6592 h6847 a7102 h7103 h7348 h7593 w7838 w7839 r7840 r7841 r7842 h7843 h7863 h7864 h7884 h7885 ⊢) <;> (try simp only [zz, Int32.reduceToInt, ne_eq] at u5318 xq2 h5319 xq12 h5332 xq14 a5352 u5353 h5354 h5355 h5356 h6592 h6847 a7102 h7103 h7348 h7593 w7838 w7839 r7840 r7841 r7842 h7843 h7863 h7864 h7884 h7885 ⊢) <;> (try simp (disch := omega) only [zb] at u5318 xq2 h5319 xq12 h5332 xq14 a5352 u5353 h5354 h5355 h5356 h6592 h6847 a7102 h7103 h7348 h7593 w7838 w7839 r7840 r7841 r7842 h7843 h7863 h7864 h7884 h7885 ⊢) <;> first | omega | ((try simp (disch := omega) only [zb] at u5318 xq2 h5319 xq12 h5332 xq14 a5352 u5353 h5354 h5355 h5356 h6592 h6847 a7102 h7103 h7348 h7593 w7838 w7839 r7840 r7841 r7842 h7843 h7863 h7864 h7884 h7885 ⊢) <;> omega)) ) ?_
                                intro q28 hqq28
                                obtain ⟨cq28, gq28, xq28⟩ := hqq28
                                have fq28 := fr_trans fs11 gq28 rfl
                                have w7905 := (gq28.2.2 _ _ t_p0 0 rfl).1
                                have w7906 : mm_I s11 p0 0 = mm_I q2.2 p0 0 := by rw [← es11]; exact rd_k t_p0 tq5 (by decide)
                                have w7908 := rdA_fr (k := 9) (j := 1) gq28 cs11 t_p0 (κ' := 59) rfl rfl rfl
                                have w7910 : rdA s11 p0 9 1 = mm_I s11 q17 ((1 : Int32)).toNatClampNeg := rdA_eq eq17
                                have w7909 : rdA s11 p0 9 1 = rdA q2.2 p0 9 1 := by rw [← es11]; exact rdA_k cq2 t_p0 (κ' := 59) rfl tq5 (by decide)
                                have w7911 := rdA_fr (k := 9) (j := 1) gq2 c0 t_p0 (κ' := 59) rfl rfl rfl
                                have w7913 := rdA_fr (k := 10) (j := 1) gq28 cs11 t_p0 (κ' := 60) rfl rfl rfl
                                have w7914 : rdA s11 p0 10 1 = rdA q2.2 p0 10 1 := by rw [← es11]; exact rdA_j (by decide)
                                have w7916 : rdA q2.2 p0 10 1 = mm_I q2.2 q5 ((1 : Int32)).toNatClampNeg := rdA_eq eq5
                                have w7915 := rdA_fr (k := 10) (j := 1) gq2 c0 t_p0 (κ' := 60) rfl rfl rfl
                                have w7918 := rdA_fr (k := 10) (j := 0) gq28 cs11 t_p0 (κ' := 60) rfl rfl rfl
                                have w7919 : rdA s11 p0 10 0 = -1 := by rw [← es11]; exact rdA_self eq5
                                have w7920 := rdA_fr (k := 9) (j := 0) gq28 cs11 t_p0 (κ' := 59) rfl rfl rfl
                                have w7922 : rdA s11 p0 9 0 = mm_I s11 q17 ((0 : Int32)).toNatClampNeg := rdA_eq eq17
                                have w7921 : rdA s11 p0 9 0 = rdA q2.2 p0 9 0 := by rw [← es11]; exact rdA_k cq2 t_p0 (κ' := 59) rfl tq5 (by decide)
                                have w7923 := rdA_fr (k := 9) (j := 0) gq2 c0 t_p0 (κ' := 59) rfl rfl rfl
                                have w7927 : rdA q2.2 p0 10 0 = mm_I q2.2 q5 ((0 : Int32)).toNatClampNeg := rdA_eq eq5
                                have w7926 := rdA_fr (k := 10) (j := 0) gq2 c0 t_p0 (κ' := 60) rfl rfl rfl
                                have a7928 := zi_and p2 8 (by decide)
                                exact sw_some ⟨cq28, fq28, (by (try simp only [zp, zo, zq] at u5318 xq2 h5319 xq12 h5332 xq14 a5352 u5353 h5354 h5355 h5356 h6592 h6847 a7102 h7103 h7348 h7593 w7838 w7839 r7840 r7841 r7842 h7843 h7863 h7864 h7884 h7885 w7905 w7906 w7908 w7910 w7909 w7911 w7913 w7914 w7916 w7915 w7918 w7919 w7920 w7922 w7921 w7923 w7927 w7926 a7928 ⊢) <;> (try simp only [zz, Int32.reduceToInt, ne_eq] at u5318 xq2 h5319 xq12 h5332 xq14 a5352 u5353 h5354 h5355 h5356 h6592 h6847 a7102 h7103 h7348 h7593 w7838 w7839 r7840 r7841 r7842 h7843 h7863 h7864 h7884 h7885 w7905 w7906 w7908 w7910 w7909 w7911 w7913 w7914 w7916 w7915 w7918 w7919 w7920 w7922 w7921 w7923 w7927 w7926 a7928 ⊢) <;> (try simp (disch := omega) only [zb] at u5318 xq2 h5319 xq12 h5332 xq14 a5352 u5353 h5354 h5355 h5356 h6592 h6847 a7102 h7103 h7348 h7593 w7838 w7839 r7840 r7841 r7842 h7843 h7863 h7864 h7884 h7885 w7905 w7906 w7908 w7910 w7909 w7911 w7913 w7914 w7916 w7915 w7918 w7919 w7920 w7922 w7921 w7923 w7927 w7926 a7928 ⊢) <;> first | omega | ((try simp (disch := omega) only [zb] at u5318 xq2 h5319 xq12 h5332 xq14 a5352 u5353 h5354 h5355 h5356 h6592 h6847 a7102 h7103 h7348 h7593 w7838 w7839 r7840 r7841 r7842 h7843 h7863 h7864 h7884 h7885 w7905 w7906 w7908 w7910 w7909 w7911 w7913 w7914 w7916 w7915 w7918 w7919 w7920 w7922 w7921 w7923 w7927 w7926 a7928 ⊢) <;> omega))⟩
                            · refine sw_sh (ci_sh cs11 t_p0 rfl) ?_
                              refine sw_on (sX9_put cs11 t_p0 (by (try simp only [zp, zo, zq] at u5318 xq2 h5319 xq12 h5332 xq14 a5352 u5353 h5354 h5355 h5356 h6592 h6847 a7102 h7103 h7348 h7593 w7838 w7839 r7840 r7841 r7842 h7843 h7863 h7864 h7884 ⊢) <;> (try simp only [zz, Int32.reduceToInt, ne_eq] at u5318 xq2 h5319 xq12 h5332 xq14 a5352 u5353 h5354 h5355 h5356 h6592 h6847 a7102 h7103 h7348 h7593 w7838 w7839 r7840 r7841 r7842 h7843 h7863 h7864 h7884 ⊢) <;> (try simp (disch := omega) only [zb] at u5318 xq2 h5319 xq12 h5332 xq14 a5352 u5353 h5354 h5355 h5356 h6592 h6847 a7102 h7103 h7348 h7593 w7838 w7839 r7840 r7841 r7842 h7843 h7863 h7864 h7884 ⊢) <;> first | omega | ((try simp (disch := omega) only [zb] at u5318 xq2 h5319 xq12 h5332 xq14 a5352 u5353 h5354 h5355 h5356 h6592 h6847 a7102 h7103 h7348 h7593 w7838 w7839 r7840 r7841 r7842 h7843 h7863 h7864 h7884 ⊢) <;> omega)) ) ?_
                              intro q30 hqq30
                              obtain ⟨cq30, gq30, xq30⟩ := hqq30
                              have fq30 := fr_trans fs11 gq30 rfl
                              unfold fX9_pair_264
                              refine sw_ite (fun h7929 => ?_) (fun h7929 => ?_)
                              · have w7930 := (gq30.2.2 _ _ t_p0 0 rfl).1
                                have w7931 : mm_I s11 p0 0 = mm_I q2.2 p0 0 := by rw [← es11]; exact rd_k t_p0 tq5 (by decide)
                                have w7933 := rdA_fr (k := 9) (j := 1) gq30 cs11 t_p0 (κ' := 59) rfl rfl rfl
                                have w7935 : rdA s11 p0 9 1 = mm_I s11 q17 ((1 : Int32)).toNatClampNeg := rdA_eq eq17
                                have w7934 : rdA s11 p0 9 1 = rdA q2.2 p0 9 1 := by rw [← es11]; exact rdA_k cq2 t_p0 (κ' := 59) rfl tq5 (by decide)
                                have w7936 := rdA_fr (k := 9) (j := 1) gq2 c0 t_p0 (κ' := 59) rfl rfl rfl
                                have w7938 := rdA_fr (k := 10) (j := 1) gq30 cs11 t_p0 (κ' := 60) rfl rfl rfl
                                have w7939 : rdA s11 p0 10 1 = rdA q2.2 p0 10 1 := by rw [← es11]; exact rdA_j (by decide)
                                have w7941 : rdA q2.2 p0 10 1 = mm_I q2.2 q5 ((1 : Int32)).toNatClampNeg := rdA_eq eq5
                                have w7940 := rdA_fr (k := 10) (j := 1) gq2 c0 t_p0 (κ' := 60) rfl rfl rfl
                                have w7943 := rdA_fr (k := 10) (j := 0) gq30 cs11 t_p0 (κ' := 60) rfl rfl rfl
                                have w7944 : rdA s11 p0 10 0 = -1 := by rw [← es11]; exact rdA_self eq5
                                have w7945 := rdA_fr (k := 9) (j := 0) gq30 cs11 t_p0 (κ' := 59) rfl rfl rfl
                                have w7947 : rdA s11 p0 9 0 = mm_I s11 q17 ((0 : Int32)).toNatClampNeg := rdA_eq eq17
                                have w7946 : rdA s11 p0 9 0 = rdA q2.2 p0 9 0 := by rw [← es11]; exact rdA_k cq2 t_p0 (κ' := 59) rfl tq5 (by decide)
                                have w7948 := rdA_fr (k := 9) (j := 0) gq2 c0 t_p0 (κ' := 59) rfl rfl rfl
                                have w7952 : rdA q2.2 p0 10 0 = mm_I q2.2 q5 ((0 : Int32)).toNatClampNeg := rdA_eq eq5
                                have w7951 := rdA_fr (k := 10) (j := 0) gq2 c0 t_p0 (κ' := 60) rfl rfl rfl
                                have a7953 := zi_and p2 8 (by decide)
                                exact sw_some ⟨cq30, fq30, (by (try simp only [zp, zo, zq] at u5318 xq2 h5319 xq12 h5332 xq14 a5352 u5353 h5354 h5355 h5356 h6592 h6847 a7102 h7103 h7348 h7593 w7838 w7839 r7840 r7841 r7842 h7843 h7863 h7864 h7884 h7929 w7930 w7931 w7933 w7935 w7934 w7936 w7938 w7939 w7941 w7940 w7943 w7944 w7945 w7947 w7946 w7948 w7952 w7951 a7953 ⊢) <;> (try simp only [zz, Int32.reduceToInt, ne_eq] at u5318 xq2 h5319 xq12 h5332 xq14 a5352 u5353 h5354 h5355 h5356 h6592 h6847 a7102 h7103 h7348 h7593 w7838 w7839 r7840 r7841 r7842 h7843 h7863 h7864 h7884 h7929 w7930 w7931 w7933 w7935 w7934 w7936 w7938 w7939 w7941 w7940 w7943 w7944 w7945 w7947 w7946 w7948 w7952 w7951 a7953 ⊢) <;> (try simp (disch := omega) only [zb] at u5318 xq2 h5319 xq12 h5332 xq14 a5352 u5353 h5354 h5355 h5356 h6592 h6847 a7102 h7103 h7348 h7593 w7838 w7839 r7840 r7841 r7842 h7843 h7863 h7864 h7884 h7929 w7930 w7931 w7933 w7935 w7934 w7936 w7938 w7939 w7941 w7940 w7943 w7944 w7945 w7947 w7946 w7948 w7952 w7951 a7953 ⊢) <;> first | omega | ((try simp (disch := omega) only [zb] at u5318 xq2 h5319 xq12 h5332 xq14 a5352 u5353 h5354 h5355 h5356 h6592 h6847 a7102 h7103 h7348 h7593 w7838 w7839 r7840 r7841 r7842 h7843 h7863 h7864 h7884 h7929 w7930 w7931 w7933 w7935 w7934 w7936 w7938 w7939 w7941 w7940 w7943 w7944 w7945 w7947 w7946 w7948 w7952 w7951 a7953 ⊢) <;> omega))⟩
                              · refine sw_sh (ci_sh cq30 t_p0 rfl) ?_
                                refine sw_on (sX9_put cq30 t_p0 (by (try simp only [zp, zo, zq] at u5318 xq2 h5319 xq12 h5332 xq14 a5352 u5353 h5354 h5355 h5356 h6592 h6847 a7102 h7103 h7348 h7593 w7838 w7839 r7840 r7841 r7842 h7843 h7863 h7864 h7884 h7929 ⊢) <;> (try simp only [zz, Int32.reduceToInt, ne_eq] at u5318 xq2 h5319 xq12 h5332 xq14 a5352 u5353 h5354 h5355 h5356 h6592 h6847 a7102 h7103 h7348 h7593 w7838 w7839 r7840 r7841 r7842 h7843 h7863 h7864 h7884 h7929 ⊢) <;> (try simp (disch := omega) only [zb] at u5318 xq2 h5319 xq12 h5332 xq14 a5352 u5353 h5354 h5355 h5356 h6592 h6847 a7102 h7103 h7348 h7593 w7838 w7839 r7840 r7841 r7842 h7843 h7863 h7864 h7884 h7929 ⊢) <;> first | omega | ((try simp (disch := omega) only [zb] at u5318 xq2 h5319 xq12 h5332 xq14 a5352 u5353 h5354 h5355 h5356 h6592 h6847 a7102 h7103 h7348 h7593 w7838 w7839 r7840 r7841 r7842 h7843 h7863 h7864 h7884 h7929 ⊢) <;> omega)) ) ?_
                                intro q28 hqq28
                                obtain ⟨cq28, gq28, xq28⟩ := hqq28
                                have fq28 := fr_trans fq30 gq28 rfl
                                have w7954 := (gq28.2.2 _ _ t_p0 0 rfl).1
                                have w7955 := (gq30.2.2 _ _ t_p0 0 rfl).1
                                have w7956 : mm_I s11 p0 0 = mm_I q2.2 p0 0 := by rw [← es11]; exact rd_k t_p0 tq5 (by decide)
                                have w7958 := rdA_fr (k := 9) (j := 1) gq28 cq30 t_p0 (κ' := 59) rfl rfl rfl
                                have w7959 := rdA_fr (k := 9) (j := 1) gq30 cs11 t_p0 (κ' := 59) rfl rfl rfl
                                have w7961 : rdA s11 p0 9 1 = mm_I s11 q17 ((1 : Int32)).toNatClampNeg := rdA_eq eq17
                                have w7960 : rdA s11 p0 9 1 = rdA q2.2 p0 9 1 := by rw [← es11]; exact rdA_k cq2 t_p0 (κ' := 59) rfl tq5 (by decide)
                                have w7962 := rdA_fr (k := 9) (j := 1) gq2 c0 t_p0 (κ' := 59) rfl rfl rfl
                                have w7964 := rdA_fr (k := 10) (j := 1) gq28 cq30 t_p0 (κ' := 60) rfl rfl rfl
                                have w7965 := rdA_fr (k := 10) (j := 1) gq30 cs11 t_p0 (κ' := 60) rfl rfl rfl
                                have w7966 : rdA s11 p0 10 1 = rdA q2.2 p0 10 1 := by rw [← es11]; exact rdA_j (by decide)
                                have w7968 : rdA q2.2 p0 10 1 = mm_I q2.2 q5 ((1 : Int32)).toNatClampNeg := rdA_eq eq5
                                have w7967 := rdA_fr (k := 10) (j := 1) gq2 c0 t_p0 (κ' := 60) rfl rfl rfl
                                have w7970 := rdA_fr (k := 10) (j := 0) gq28 cq30 t_p0 (κ' := 60) rfl rfl rfl
                                have w7971 := rdA_fr (k := 10) (j := 0) gq30 cs11 t_p0 (κ' := 60) rfl rfl rfl
                                have w7972 : rdA s11 p0 10 0 = -1 := by rw [← es11]; exact rdA_self eq5
                                have w7973 := rdA_fr (k := 9) (j := 0) gq28 cq30 t_p0 (κ' := 59) rfl rfl rfl
                                have w7974 := rdA_fr (k := 9) (j := 0) gq30 cs11 t_p0 (κ' := 59) rfl rfl rfl
                                have w7976 : rdA s11 p0 9 0 = mm_I s11 q17 ((0 : Int32)).toNatClampNeg := rdA_eq eq17
                                have w7975 : rdA s11 p0 9 0 = rdA q2.2 p0 9 0 := by rw [← es11]; exact rdA_k cq2 t_p0 (κ' := 59) rfl tq5 (by decide)
                                have w7977 := rdA_fr (k := 9) (j := 0) gq2 c0 t_p0 (κ' := 59) rfl rfl rfl
                                have w7981 : rdA q2.2 p0 10 0 = mm_I q2.2 q5 ((0 : Int32)).toNatClampNeg := rdA_eq eq5
                                have w7980 := rdA_fr (k := 10) (j := 0) gq2 c0 t_p0 (κ' := 60) rfl rfl rfl
                                have a7982 := zi_and p2 8 (by decide)
                                exact sw_some ⟨cq28, fq28, (by (try simp only [zp, zo, zq] at u5318 xq2 h5319 xq12 h5332 xq14 a5352 u5353 h5354 h5355 h5356 h6592 h6847 a7102 h7103 h7348 h7593 w7838 w7839 r7840 r7841 r7842 h7843 h7863 h7864 h7884 h7929 w7954 w7955 w7956 w7958 w7959 w7961 w7960 w7962 w7964 w7965 w7966 w7968 w7967 w7970 w7971 w7972 w7973 w7974 w7976 w7975 w7977 w7981 w7980 a7982 ⊢) <;> (try simp only [zz, Int32.reduceToInt, ne_eq] at u5318 xq2 h5319 xq12 h5332 xq14 a5352 u5353 h5354 h5355 h5356 h6592 h6847 a7102 h7103 h7348 h7593 w7838 w7839 r7840 r7841 r7842 h7843 h7863 h7864 h7884 h7929 w7954 w7955 w7956 w7958 w7959 w7961 w7960 w7962 w7964 w7965 w7966 w7968 w7967 w7970 w7971 w7972 w7973 w7974 w7976 w7975 w7977 w7981 w7980 a7982 ⊢) <;> (try simp (disch := omega) only [zb] at u5318 xq2 h5319 xq12 h5332 xq14 a5352 u5353 h5354 h5355 h5356 h6592 h6847 a7102 h7103 h7348 h7593 w7838 w7839 r7840 r7841 r7842 h7843 h7863 h7864 h7884 h7929 w7954 w7955 w7956 w7958 w7959 w7961 w7960 w7962 w7964 w7965 w7966 w7968 w7967 w7970 w7971 w7972 w7973 w7974 w7976 w7975 w7977 w7981 w7980 a7982 ⊢) <;> first | omega | ((try simp (disch := omega) only [zb] at u5318 xq2 h5319 xq12 h5332 xq14 a5352 u5353 h5354 h5355 h5356 h6592 h6847 a7102 h7103 h7348 h7593 w7838 w7839 r7840 r7841 r7842 h7843 h7863 h7864 h7884 h7929 w7954 w7955 w7956 w7958 w7959 w7961 w7960 w7962 w7964 w7965 w7966 w7968 w7967 w7970 w7971 w7972 w7973 w7974 w7976 w7975 w7977 w7981 w7980 a7982 ⊢) <;> omega))⟩
                        · unfold fX9_pair_250
                          refine sw_ite (fun h7983 => ?_) (fun h7983 => ?_)
                          · unfold fX9_pair_264
                            refine sw_ite (fun h7984 => ?_) (fun h7984 => ?_)
                            · have w7985 : mm_I s11 p0 0 = mm_I q2.2 p0 0 := by rw [← es11]; exact rd_k t_p0 tq5 (by decide)
                              have w7988 : rdA s11 p0 9 1 = mm_I s11 q17 ((1 : Int32)).toNatClampNeg := rdA_eq eq17
                              have w7987 : rdA s11 p0 9 1 = rdA q2.2 p0 9 1 := by rw [← es11]; exact rdA_k cq2 t_p0 (κ' := 59) rfl tq5 (by decide)
                              have w7989 := rdA_fr (k := 9) (j := 1) gq2 c0 t_p0 (κ' := 59) rfl rfl rfl
                              have w7991 : rdA s11 p0 10 1 = rdA q2.2 p0 10 1 := by rw [← es11]; exact rdA_j (by decide)
                              have w7993 : rdA q2.2 p0 10 1 = mm_I q2.2 q5 ((1 : Int32)).toNatClampNeg := rdA_eq eq5
                              have w7992 := rdA_fr (k := 10) (j := 1) gq2 c0 t_p0 (κ' := 60) rfl rfl rfl
                              have w7995 : rdA s11 p0 10 0 = -1 := by rw [← es11]; exact rdA_self eq5
                              have w7997 : rdA s11 p0 9 0 = mm_I s11 q17 ((0 : Int32)).toNatClampNeg := rdA_eq eq17
                              have w7996 : rdA s11 p0 9 0 = rdA q2.2 p0 9 0 := by rw [← es11]; exact rdA_k cq2 t_p0 (κ' := 59) rfl tq5 (by decide)
                              have w7998 := rdA_fr (k := 9) (j := 0) gq2 c0 t_p0 (κ' := 59) rfl rfl rfl
                              have w8002 : rdA q2.2 p0 10 0 = mm_I q2.2 q5 ((0 : Int32)).toNatClampNeg := rdA_eq eq5
                              have w8001 := rdA_fr (k := 10) (j := 0) gq2 c0 t_p0 (κ' := 60) rfl rfl rfl
                              have a8003 := zi_and p2 8 (by decide)
                              exact sw_some ⟨cs11, fs11, (by (try simp only [zp, zo, zq] at u5318 xq2 h5319 xq12 h5332 xq14 a5352 u5353 h5354 h5355 h5356 h6592 h6847 a7102 h7103 h7348 h7593 w7838 w7839 r7840 r7841 r7842 h7843 h7863 h7983 h7984 w7985 w7988 w7987 w7989 w7991 w7993 w7992 w7995 w7997 w7996 w7998 w8002 w8001 a8003 ⊢) <;> (try simp only [zz, Int32.reduceToInt, ne_eq] at u5318 xq2 h5319 xq12 h5332 xq14 a5352 u5353 h5354 h5355 h5356 h6592 h6847 a7102 h7103 h7348 h7593 w7838 w7839 r7840 r7841 r7842 h7843 h7863 h7983 h7984 w7985 w7988 w7987 w7989 w7991 w7993 w7992 w7995 w7997 w7996 w7998 w8002 w8001 a8003 ⊢) <;> (try simp (disch := omega) only [zb] at u5318 xq2 h5319 xq12 h5332 xq14 a5352 u5353 h5354 h5355 h5356 h6592 h6847 a7102 h7103 h7348 h7593 w7838 w7839 r7840 r7841 r7842 h7843 h7863 h7983 h7984 w7985 w7988 w7987 w7989 w7991 w7993 w7992 w7995 w7997 w7996 w7998 w8002 w8001 a8003 ⊢) <;> first | omega | ((try simp (disch := omega) only [zb] at u5318 xq2 h5319 xq12 h5332 xq14 a5352 u5353 h5354 h5355 h5356 h6592 h6847 a7102 h7103 h7348 h7593 w7838 w7839 r7840 r7841 r7842 h7843 h7863 h7983 h7984 w7985 w7988 w7987 w7989 w7991 w7993 w7992 w7995 w7997 w7996 w7998 w8002 w8001 a8003 ⊢) <;> omega))⟩
                            · refine sw_sh (ci_sh cs11 t_p0 rfl) ?_
                              refine sw_on (sX9_put cs11 t_p0 (by (try simp only [zp, zo, zq] at u5318 xq2 h5319 xq12 h5332 xq14 a5352 u5353 h5354 h5355 h5356 h6592 h6847 a7102 h7103 h7348 h7593 w7838 w7839 r7840 r7841 r7842 h7843 h7863 h7983 h7984 ⊢) <;> (try simp only [zz, Int32.reduceToInt, ne_eq] at u5318 xq2 h5319 xq12 h5332 xq14 a5352 u5353 h5354 h5355 h5356 h6592 h6847 a7102 h7103 h7348 h7593 w7838 w7839 r7840 r7841 r7842 h7843 h7863 h7983 h7984 ⊢) <;> (try simp (disch := omega) only [zb] at u5318 xq2 h5319 xq12 h5332 xq14 a5352 u5353 h5354 h5355 h5356 h6592 h6847 a7102 h7103 h7348 h7593 w7838 w7839 r7840 r7841 r7842 h7843 h7863 h7983 h7984 ⊢) <;> first | omega | ((try simp (disch := omega) only [zb] at u5318 xq2 h5319 xq12 h5332 xq14 a5352 u5353 h5354 h5355 h5356 h6592 h6847 a7102 h7103 h7348 h7593 w7838 w7839 r7840 r7841 r7842 h7843 h7863 h7983 h7984 ⊢) <;> omega)) ) ?_
                              intro q28 hqq28
                              obtain ⟨cq28, gq28, xq28⟩ := hqq28
                              have fq28 := fr_trans fs11 gq28 rfl
                              have w8004 := (gq28.2.2 _ _ t_p0 0 rfl).1
                              have w8005 : mm_I s11 p0 0 = mm_I q2.2 p0 0 := by rw [← es11]; exact rd_k t_p0 tq5 (by decide)
                              have w8007 := rdA_fr (k := 9) (j := 1) gq28 cs11 t_p0 (κ' := 59) rfl rfl rfl
                              have w8009 : rdA s11 p0 9 1 = mm_I s11 q17 ((1 : Int32)).toNatClampNeg := rdA_eq eq17
                              have w8008 : rdA s11 p0 9 1 = rdA q2.2 p0 9 1 := by rw [← es11]; exact rdA_k cq2 t_p0 (κ' := 59) rfl tq5 (by decide)
                              have w8010 := rdA_fr (k := 9) (j := 1) gq2 c0 t_p0 (κ' := 59) rfl rfl rfl
                              have w8012 := rdA_fr (k := 10) (j := 1) gq28 cs11 t_p0 (κ' := 60) rfl rfl rfl
                              have w8013 : rdA s11 p0 10 1 = rdA q2.2 p0 10 1 := by rw [← es11]; exact rdA_j (by decide)
                              have w8015 : rdA q2.2 p0 10 1 = mm_I q2.2 q5 ((1 : Int32)).toNatClampNeg := rdA_eq eq5
                              have w8014 := rdA_fr (k := 10) (j := 1) gq2 c0 t_p0 (κ' := 60) rfl rfl rfl
                              have w8017 := rdA_fr (k := 10) (j := 0) gq28 cs11 t_p0 (κ' := 60) rfl rfl rfl
                              have w8018 : rdA s11 p0 10 0 = -1 := by rw [← es11]; exact rdA_self eq5
                              have w8019 := rdA_fr (k := 9) (j := 0) gq28 cs11 t_p0 (κ' := 59) rfl rfl rfl
                              have w8021 : rdA s11 p0 9 0 = mm_I s11 q17 ((0 : Int32)).toNatClampNeg := rdA_eq eq17
                              have w8020 : rdA s11 p0 9 0 = rdA q2.2 p0 9 0 := by rw [← es11]; exact rdA_k cq2 t_p0 (κ' := 59) rfl tq5 (by decide)
                              have w8022 := rdA_fr (k := 9) (j := 0) gq2 c0 t_p0 (κ' := 59) rfl rfl rfl
                              have w8026 : rdA q2.2 p0 10 0 = mm_I q2.2 q5 ((0 : Int32)).toNatClampNeg := rdA_eq eq5
                              have w8025 := rdA_fr (k := 10) (j := 0) gq2 c0 t_p0 (κ' := 60) rfl rfl rfl
                              have a8027 := zi_and p2 8 (by decide)
                              exact sw_some ⟨cq28, fq28, (by (try simp only [zp, zo, zq] at u5318 xq2 h5319 xq12 h5332 xq14 a5352 u5353 h5354 h5355 h5356 h6592 h6847 a7102 h7103 h7348 h7593 w7838 w7839 r7840 r7841 r7842 h7843 h7863 h7983 h7984 w8004 w8005 w8007 w8009 w8008 w8010 w8012 w8013 w8015 w8014 w8017 w8018 w8019 w8021 w8020 w8022 w8026 w8025 a8027 ⊢) <;> (try simp only [zz, Int32.reduceToInt, ne_eq] at u5318 xq2 h5319 xq12 h5332 xq14 a5352 u5353 h5354 h5355 h5356 h6592 h6847 a7102 h7103 h7348 h7593 w7838 w7839 r7840 r7841 r7842 h7843 h7863 h7983 h7984 w8004 w8005 w8007 w8009 w8008 w8010 w8012 w8013 w8015 w8014 w8017 w8018 w8019 w8021 w8020 w8022 w8026 w8025 a8027 ⊢) <;> (try simp (disch := omega) only [zb] at u5318 xq2 h5319 xq12 h5332 xq14 a5352 u5353 h5354 h5355 h5356 h6592 h6847 a7102 h7103 h7348 h7593 w7838 w7839 r7840 r7841 r7842 h7843 h7863 h7983 h7984 w8004 w8005 w8007 w8009 w8008 w8010 w8012 w8013 w8015 w8014 w8017 w8018 w8019 w8021 w8020 w8022 w8026 w8025 a8027 ⊢) <;> first | omega | ((try simp (disch := omega) only [zb] at u5318 xq2 h5319 xq12 h5332 xq14 a5352 u5353 h5354 h5355 h5356 h6592 h6847 a7102 h7103 h7348 h7593 w7838 w7839 r7840 r7841 r7842 h7843 h7863 h7983 h7984 w8004 w8005 w8007 w8009 w8008 w8010 w8012 w8013 w8015 w8014 w8017 w8018 w8019 w8021 w8020 w8022 w8026 w8025 a8027 ⊢) <;> omega))⟩
                          · refine sw_sh (ci_sh cs11 t_p0 rfl) ?_
                            refine sw_on (sX9_put cs11 t_p0 (by (try simp only [zp, zo, zq] at u5318 xq2 h5319 xq12 h5332 xq14 a5352 u5353 h5354 h5355 h5356 h6592 h6847 a7102 h7103 h7348 h7593 w7838 w7839 r7840 r7841 r7842 h7843 h7863 h7983 ⊢) <;> (try simp only [zz, Int32.reduceToInt, ne_eq] at u5318 xq2 h5319 xq12 h5332 xq14 a5352 u5353 h5354 h5355 h5356 h6592 h6847 a7102 h7103 h7348 h7593 w7838 w7839 r7840 r7841 r7842 h7843 h7863 h7983 ⊢) <;> (try simp (disch := omega) only [zb] at u5318 xq2 h5319 xq12 h5332 xq14 a5352 u5353 h5354 h5355 h5356 h6592 h6847 a7102 h7103 h7348 h7593 w7838 w7839 r7840 r7841 r7842 h7843 h7863 h7983 ⊢) <;> first | omega | ((try simp (disch := omega) only [zb] at u5318 xq2 h5319 xq12 h5332 xq14 a5352 u5353 h5354 h5355 h5356 h6592 h6847 a7102 h7103 h7348 h7593 w7838 w7839 r7840 r7841 r7842 h7843 h7863 h7983 ⊢) <;> omega)) ) ?_
                            intro q30 hqq30
                            obtain ⟨cq30, gq30, xq30⟩ := hqq30
                            have fq30 := fr_trans fs11 gq30 rfl
                            unfold fX9_pair_264
                            refine sw_ite (fun h8028 => ?_) (fun h8028 => ?_)
                            · have w8029 := (gq30.2.2 _ _ t_p0 0 rfl).1
                              have w8030 : mm_I s11 p0 0 = mm_I q2.2 p0 0 := by rw [← es11]; exact rd_k t_p0 tq5 (by decide)
                              have w8032 := rdA_fr (k := 9) (j := 1) gq30 cs11 t_p0 (κ' := 59) rfl rfl rfl
                              have w8034 : rdA s11 p0 9 1 = mm_I s11 q17 ((1 : Int32)).toNatClampNeg := rdA_eq eq17
                              have w8033 : rdA s11 p0 9 1 = rdA q2.2 p0 9 1 := by rw [← es11]; exact rdA_k cq2 t_p0 (κ' := 59) rfl tq5 (by decide)
                              have w8035 := rdA_fr (k := 9) (j := 1) gq2 c0 t_p0 (κ' := 59) rfl rfl rfl
                              have w8037 := rdA_fr (k := 10) (j := 1) gq30 cs11 t_p0 (κ' := 60) rfl rfl rfl
                              have w8038 : rdA s11 p0 10 1 = rdA q2.2 p0 10 1 := by rw [← es11]; exact rdA_j (by decide)
                              have w8040 : rdA q2.2 p0 10 1 = mm_I q2.2 q5 ((1 : Int32)).toNatClampNeg := rdA_eq eq5
                              have w8039 := rdA_fr (k := 10) (j := 1) gq2 c0 t_p0 (κ' := 60) rfl rfl rfl
                              have w8042 := rdA_fr (k := 10) (j := 0) gq30 cs11 t_p0 (κ' := 60) rfl rfl rfl
                              have w8043 : rdA s11 p0 10 0 = -1 := by rw [← es11]; exact rdA_self eq5
                              have w8044 := rdA_fr (k := 9) (j := 0) gq30 cs11 t_p0 (κ' := 59) rfl rfl rfl
                              have w8046 : rdA s11 p0 9 0 = mm_I s11 q17 ((0 : Int32)).toNatClampNeg := rdA_eq eq17
                              have w8045 : rdA s11 p0 9 0 = rdA q2.2 p0 9 0 := by rw [← es11]; exact rdA_k cq2 t_p0 (κ' := 59) rfl tq5 (by decide)
                              have w8047 := rdA_fr (k := 9) (j := 0) gq2 c0 t_p0 (κ' := 59) rfl rfl rfl
                              have w8051 : rdA q2.2 p0 10 0 = mm_I q2.2 q5 ((0 : Int32)).toNatClampNeg := rdA_eq eq5
                              have w8050 := rdA_fr (k := 10) (j := 0) gq2 c0 t_p0 (κ' := 60) rfl rfl rfl
                              have a8052 := zi_and p2 8 (by decide)
                              exact sw_some ⟨cq30, fq30, (by (try simp only [zp, zo, zq] at u5318 xq2 h5319 xq12 h5332 xq14 a5352 u5353 h5354 h5355 h5356 h6592 h6847 a7102 h7103 h7348 h7593 w7838 w7839 r7840 r7841 r7842 h7843 h7863 h7983 h8028 w8029 w8030 w8032 w8034 w8033 w8035 w8037 w8038 w8040 w8039 w8042 w8043 w8044 w8046 w8045 w8047 w8051 w8050 a8052 ⊢) <;> (try simp only [zz, Int32.reduceToInt, ne_eq] at u5318 xq2 h5319 xq12 h5332 xq14 a5352 u5353 h5354 h5355 h5356 h6592 h6847 a7102 h7103 h7348 h7593 w7838 w7839 r7840 r7841 r7842 h7843 h7863 h7983 h8028 w8029 w8030 w8032 w8034 w8033 w8035 w8037 w8038 w8040 w8039 w8042 w8043 w8044 w8046 w8045 w8047 w8051 w8050 a8052 ⊢) <;> (try simp (disch := omega) only [zb] at u5318 xq2 h5319 xq12 h5332 xq14 a5352 u5353 h5354 h5355 h5356 h6592 h6847 a7102 h7103 h7348 h7593 w7838 w7839 r7840 r7841 r7842 h7843 h7863 h7983 h8028 w8029 w8030 w8032 w8034 w8033 w8035 w8037 w8038 w8040 w8039 w8042 w8043 w8044 w8046 w8045 w8047 w8051 w8050 a8052 ⊢) <;> first | omega | ((try simp (disch := omega) only [zb] at u5318 xq2 h5319 xq12 h5332 xq14 a5352 u5353 h5354 h5355 h5356 h6592 h6847 a7102 h7103 h7348 h7593 w7838 w7839 r7840 r7841 r7842 h7843 h7863 h7983 h8028 w8029 w8030 w8032 w8034 w8033 w8035 w8037 w8038 w8040 w8039 w8042 w8043 w8044 w8046 w8045 w8047 w8051 w8050 a8052 ⊢) <;> omega))⟩
                            · refine sw_sh (ci_sh cq30 t_p0 rfl) ?_
                              refine sw_on (sX9_put cq30 t_p0 (by (try simp only [zp, zo, zq] at u5318 xq2 h5319 xq12 h5332 xq14 a5352 u5353 h5354 h5355 h5356 h6592 h6847 a7102 h7103 h7348 h7593 w7838 w7839 r7840 r7841 r7842 h7843 h7863 h7983 h8028 ⊢) <;> (try simp only [zz, Int32.reduceToInt, ne_eq] at u5318 xq2 h5319 xq12 h5332 xq14 a5352 u5353 h5354 h5355 h5356 h6592 h6847 a7102 h7103 h7348 h7593 w7838 w7839 r7840 r7841 r7842 h7843 h7863 h7983 h8028 ⊢) <;> (try simp (disch := omega) only [zb] at u5318 xq2 h5319 xq12 h5332 xq14 a5352 u5353 h5354 h5355 h5356 h6592 h6847 a7102 h7103 h7348 h7593 w7838 w7839 r7840 r7841 r7842 h7843 h7863 h7983 h8028 ⊢) <;> first | omega | ((try simp (disch := omega) only [zb] at u5318 xq2 h5319 xq12 h5332 xq14 a5352 u5353 h5354 h5355 h5356 h6592 h6847 a7102 h7103 h7348 h7593 w7838 w7839 r7840 r7841 r7842 h7843 h7863 h7983 h8028 ⊢) <;> omega)) ) ?_
                              intro q28 hqq28
                              obtain ⟨cq28, gq28, xq28⟩ := hqq28
                              have fq28 := fr_trans fq30 gq28 rfl
                              have w8053 := (gq28.2.2 _ _ t_p0 0 rfl).1
                              have w8054 := (gq30.2.2 _ _ t_p0 0 rfl).1
                              have w8055 : mm_I s11 p0 0 = mm_I q2.2 p0 0 := by rw [← es11]; exact rd_k t_p0 tq5 (by decide)
                              have w8057 := rdA_fr (k := 9) (j := 1) gq28 cq30 t_p0 (κ' := 59) rfl rfl rfl
                              have w8058 := rdA_fr (k := 9) (j := 1) gq30 cs11 t_p0 (κ' := 59) rfl rfl rfl
                              have w8060 : rdA s11 p0 9 1 = mm_I s11 q17 ((1 : Int32)).toNatClampNeg := rdA_eq eq17
                              have w8059 : rdA s11 p0 9 1 = rdA q2.2 p0 9 1 := by rw [← es11]; exact rdA_k cq2 t_p0 (κ' := 59) rfl tq5 (by decide)
                              have w8061 := rdA_fr (k := 9) (j := 1) gq2 c0 t_p0 (κ' := 59) rfl rfl rfl
                              have w8063 := rdA_fr (k := 10) (j := 1) gq28 cq30 t_p0 (κ' := 60) rfl rfl rfl
                              have w8064 := rdA_fr (k := 10) (j := 1) gq30 cs11 t_p0 (κ' := 60) rfl rfl rfl
                              have w8065 : rdA s11 p0 10 1 = rdA q2.2 p0 10 1 := by rw [← es11]; exact rdA_j (by decide)
                              have w8067 : rdA q2.2 p0 10 1 = mm_I q2.2 q5 ((1 : Int32)).toNatClampNeg := rdA_eq eq5
                              have w8066 := rdA_fr (k := 10) (j := 1) gq2 c0 t_p0 (κ' := 60) rfl rfl rfl
                              have w8069 := rdA_fr (k := 10) (j := 0) gq28 cq30 t_p0 (κ' := 60) rfl rfl rfl
                              have w8070 := rdA_fr (k := 10) (j := 0) gq30 cs11 t_p0 (κ' := 60) rfl rfl rfl
                              have w8071 : rdA s11 p0 10 0 = -1 := by rw [← es11]; exact rdA_self eq5
                              have w8072 := rdA_fr (k := 9) (j := 0) gq28 cq30 t_p0 (κ' := 59) rfl rfl rfl
                              have w8073 := rdA_fr (k := 9) (j := 0) gq30 cs11 t_p0 (κ' := 59) rfl rfl rfl
                              have w8075 : rdA s11 p0 9 0 = mm_I s11 q17 ((0 : Int32)).toNatClampNeg := rdA_eq eq17
                              have w8074 : rdA s11 p0 9 0 = rdA q2.2 p0 9 0 := by rw [← es11]; exact rdA_k cq2 t_p0 (κ' := 59) rfl tq5 (by decide)
                              have w8076 := rdA_fr (k := 9) (j := 0) gq2 c0 t_p0 (κ' := 59) rfl rfl rfl
                              have w8080 : rdA q2.2 p0 10 0 = mm_I q2.2 q5 ((0 : Int32)).toNatClampNeg := rdA_eq eq5
                              have w8079 := rdA_fr (k := 10) (j := 0) gq2 c0 t_p0 (κ' := 60) rfl rfl rfl
                              have a8081 := zi_and p2 8 (by decide)
                              exact sw_some ⟨cq28, fq28, (by (try simp only [zp, zo, zq] at u5318 xq2 h5319 xq12 h5332 xq14 a5352 u5353 h5354 h5355 h5356 h6592 h6847 a7102 h7103 h7348 h7593 w7838 w7839 r7840 r7841 r7842 h7843 h7863 h7983 h8028 w8053 w8054 w8055 w8057 w8058 w8060 w8059 w8061 w8063 w8064 w8065 w8067 w8066 w8069 w8070 w8071 w8072 w8073 w8075 w8074 w8076 w8080 w8079 a8081 ⊢) <;> (try simp only [zz, Int32.reduceToInt, ne_eq] at u5318 xq2 h5319 xq12 h5332 xq14 a5352 u5353 h5354 h5355 h5356 h6592 h6847 a7102 h7103 h7348 h7593 w7838 w7839 r7840 r7841 r7842 h7843 h7863 h7983 h8028 w8053 w8054 w8055 w8057 w8058 w8060 w8059 w8061 w8063 w8064 w8065 w8067 w8066 w8069 w8070 w8071 w8072 w8073 w8075 w8074 w8076 w8080 w8079 a8081 ⊢) <;> (try simp (disch := omega) only [zb] at u5318 xq2 h5319 xq12 h5332 xq14 a5352 u5353 h5354 h5355 h5356 h6592 h6847 a7102 h7103 h7348 h7593 w7838 w7839 r7840 r7841 r7842 h7843 h7863 h7983 h8028 w8053 w8054 w8055 w8057 w8058 w8060 w8059 w8061 w8063 w8064 w8065 w8067 w8066 w8069 w8070 w8071 w8072 w8073 w8075 w8074 w8076 w8080 w8079 a8081 ⊢) <;> first | omega | ((try simp (disch := omega) only [zb] at u5318 xq2 h5319 xq12 h5332 xq14 a5352 u5353 h5354 h5355 h5356 h6592 h6847 a7102 h7103 h7348 h7593 w7838 w7839 r7840 r7841 r7842 h7843 h7863 h7983 h8028 w8053 w8054 w8055 w8057 w8058 w8060 w8059 w8061 w8063 w8064 w8065 w8067 w8066 w8069 w8070 w8071 w8072 w8073 w8075 w8074 w8076 w8080 w8079 a8081 ⊢) <;> omega))⟩
        · unfold fX9_pair_179
          refine sw_ite (fun h8082 => ?_) (fun h8082 => ?_)
          · unfold fX9_pair_198
            refine sw_ite (fun h8083 => ?_) (fun h8083 => ?_)
            · unfold fX9_pair_227
              unfold fX9_pair_228
              have w8084 : mm_I s11 q17 ((0 : Int32).toNatClampNeg) = mm_I q2.2 q17 ((0 : Int32).toNatClampNeg) := by rw [← es11]; exact rd_k tq17 tq5 (by decide)
              have w8085 := (gq2.2.2 _ _ tq17 ((0 : Int32).toNatClampNeg) rfl).1
              have r8086 := ci_rg c0 tq17 ((0 : Int32).toNatClampNeg) (lo := (-1)) (hi := 3) rfl
              have r8087 := ci_rg cq2 tq17 ((0 : Int32).toNatClampNeg) (lo := (-1)) (hi := 3) rfl
              have r8088 := ci_rg cs11 tq17 ((0 : Int32).toNatClampNeg) (lo := (-1)) (hi := 3) rfl
              refine sw_ite (fun h8089 => ?_) (fun h8089 => ?_)
              · have w8090 : mm_I s11 p0 0 = mm_I q2.2 p0 0 := by rw [← es11]; exact rd_k t_p0 tq5 (by decide)
                have w8093 : rdA s11 p0 9 1 = mm_I s11 q17 ((1 : Int32)).toNatClampNeg := rdA_eq eq17
                have w8092 : rdA s11 p0 9 1 = rdA q2.2 p0 9 1 := by rw [← es11]; exact rdA_k cq2 t_p0 (κ' := 59) rfl tq5 (by decide)
                have w8094 := rdA_fr (k := 9) (j := 1) gq2 c0 t_p0 (κ' := 59) rfl rfl rfl
                have w8096 : rdA s11 p0 10 1 = rdA q2.2 p0 10 1 := by rw [← es11]; exact rdA_j (by decide)
                have w8098 : rdA q2.2 p0 10 1 = mm_I q2.2 q5 ((1 : Int32)).toNatClampNeg := rdA_eq eq5
                have w8097 := rdA_fr (k := 10) (j := 1) gq2 c0 t_p0 (κ' := 60) rfl rfl rfl
                have w8100 : rdA s11 p0 10 0 = -1 := by rw [← es11]; exact rdA_self eq5
                have w8102 : rdA s11 p0 9 0 = mm_I s11 q17 ((0 : Int32)).toNatClampNeg := rdA_eq eq17
                have w8101 : rdA s11 p0 9 0 = rdA q2.2 p0 9 0 := by rw [← es11]; exact rdA_k cq2 t_p0 (κ' := 59) rfl tq5 (by decide)
                have w8103 := rdA_fr (k := 9) (j := 0) gq2 c0 t_p0 (κ' := 59) rfl rfl rfl
                have w8107 : rdA q2.2 p0 10 0 = mm_I q2.2 q5 ((0 : Int32)).toNatClampNeg := rdA_eq eq5
                have w8106 := rdA_fr (k := 10) (j := 0) gq2 c0 t_p0 (κ' := 60) rfl rfl rfl
                have a8108 := zi_and p3 127 (by decide)
                have a8109 := zi_and p2 8 (by decide)
                exact sw_some ⟨cs11, fs11, (by (try simp only [zp, zo, zq] at u5318 xq2 h5319 xq12 h5332 xq14 a5352 u5353 h5354 h5355 h8082 h8083 w8084 w8085 r8086 r8087 r8088 h8089 w8090 w8093 w8092 w8094 w8096 w8098 w8097 w8100 w8102 w8101 w8103 w8107 w8106 a8108 a8109 ⊢) <;> (try simp only [zz, Int32.reduceToInt, ne_eq] at u5318 xq2 h5319 xq12 h5332 xq14 a5352 u5353 h5354 h5355 h8082 h8083 w8084 w8085 r8086 r8087 r8088 h8089 w8090 w8093 w8092 w8094 w8096 w8098 w8097 w8100 w8102 w8101 w8103 w8107 w8106 a8108 a8109 ⊢) <;> (try simp (disch := omega) only [zb] at u5318 xq2 h5319 xq12 h5332 xq14 a5352 u5353 h5354 h5355 h8082 h8083 w8084 w8085 r8086 r8087 r8088 h8089 w8090 w8093 w8092 w8094 w8096 w8098 w8097 w8100 w8102 w8101 w8103 w8107 w8106 a8108 a8109 ⊢) <;> first | omega | ((try simp (disch := omega) only [zb] at u5318 xq2 h5319 xq12 h5332 xq14 a5352 u5353 h5354 h5355 h8082 h8083 w8084 w8085 r8086 r8087 r8088 h8089 w8090 w8093 w8092 w8094 w8096 w8098 w8097 w8100 w8102 w8101 w8103 w8107 w8106 a8108 a8109 ⊢) <;> omega))⟩
              · refine sw_ite (fun h8110 => ?_) (fun h8110 => ?_)
                · refine sw_ite (fun h8111 => ?_) (fun h8111 => ?_)
                  · have w8112 : mm_I s11 p0 0 = mm_I q2.2 p0 0 := by rw [← es11]; exact rd_k t_p0 tq5 (by decide)
                    have w8115 : rdA s11 p0 9 1 = mm_I s11 q17 ((1 : Int32)).toNatClampNeg := rdA_eq eq17
                    have w8114 : rdA s11 p0 9 1 = rdA q2.2 p0 9 1 := by rw [← es11]; exact rdA_k cq2 t_p0 (κ' := 59) rfl tq5 (by decide)
                    have w8116 := rdA_fr (k := 9) (j := 1) gq2 c0 t_p0 (κ' := 59) rfl rfl rfl
                    have w8118 : rdA s11 p0 10 1 = rdA q2.2 p0 10 1 := by rw [← es11]; exact rdA_j (by decide)
                    have w8120 : rdA q2.2 p0 10 1 = mm_I q2.2 q5 ((1 : Int32)).toNatClampNeg := rdA_eq eq5
                    have w8119 := rdA_fr (k := 10) (j := 1) gq2 c0 t_p0 (κ' := 60) rfl rfl rfl
                    have w8122 : rdA s11 p0 10 0 = -1 := by rw [← es11]; exact rdA_self eq5
                    have w8124 : rdA s11 p0 9 0 = mm_I s11 q17 ((0 : Int32)).toNatClampNeg := rdA_eq eq17
                    have w8123 : rdA s11 p0 9 0 = rdA q2.2 p0 9 0 := by rw [← es11]; exact rdA_k cq2 t_p0 (κ' := 59) rfl tq5 (by decide)
                    have w8125 := rdA_fr (k := 9) (j := 0) gq2 c0 t_p0 (κ' := 59) rfl rfl rfl
                    have w8129 : rdA q2.2 p0 10 0 = mm_I q2.2 q5 ((0 : Int32)).toNatClampNeg := rdA_eq eq5
                    have w8128 := rdA_fr (k := 10) (j := 0) gq2 c0 t_p0 (κ' := 60) rfl rfl rfl
                    have a8130 := zi_and p3 127 (by decide)
                    have a8131 := zi_and p2 8 (by decide)
                    exact sw_some ⟨cs11, fs11, (by (try simp only [zp, zo, zq] at u5318 xq2 h5319 xq12 h5332 xq14 a5352 u5353 h5354 h5355 h8082 h8083 w8084 w8085 r8086 r8087 r8088 h8089 h8110 h8111 w8112 w8115 w8114 w8116 w8118 w8120 w8119 w8122 w8124 w8123 w8125 w8129 w8128 a8130 a8131 ⊢) <;> (try simp only [zz, Int32.reduceToInt, ne_eq] at u5318 xq2 h5319 xq12 h5332 xq14 a5352 u5353 h5354 h5355 h8082 h8083 w8084 w8085 r8086 r8087 r8088 h8089 h8110 h8111 w8112 w8115 w8114 w8116 w8118 w8120 w8119 w8122 w8124 w8123 w8125 w8129 w8128 a8130 a8131 ⊢) <;> (try simp (disch := omega) only [zb] at u5318 xq2 h5319 xq12 h5332 xq14 a5352 u5353 h5354 h5355 h8082 h8083 w8084 w8085 r8086 r8087 r8088 h8089 h8110 h8111 w8112 w8115 w8114 w8116 w8118 w8120 w8119 w8122 w8124 w8123 w8125 w8129 w8128 a8130 a8131 ⊢) <;> first | omega | ((try simp (disch := omega) only [zb] at u5318 xq2 h5319 xq12 h5332 xq14 a5352 u5353 h5354 h5355 h8082 h8083 w8084 w8085 r8086 r8087 r8088 h8089 h8110 h8111 w8112 w8115 w8114 w8116 w8118 w8120 w8119 w8122 w8124 w8123 w8125 w8129 w8128 a8130 a8131 ⊢) <;> omega))⟩
                  · unfold fX9_pair_250
                    refine sw_ite (fun h8132 => ?_) (fun h8132 => ?_)
                    · unfold fX9_pair_264
                      refine sw_ite (fun h8133 => ?_) (fun h8133 => ?_)
                      · have w8134 : mm_I s11 p0 0 = mm_I q2.2 p0 0 := by rw [← es11]; exact rd_k t_p0 tq5 (by decide)
                        have w8137 : rdA s11 p0 9 1 = mm_I s11 q17 ((1 : Int32)).toNatClampNeg := rdA_eq eq17
                        have w8136 : rdA s11 p0 9 1 = rdA q2.2 p0 9 1 := by rw [← es11]; exact rdA_k cq2 t_p0 (κ' := 59) rfl tq5 (by decide)
                        have w8138 := rdA_fr (k := 9) (j := 1) gq2 c0 t_p0 (κ' := 59) rfl rfl rfl
                        have w8140 : rdA s11 p0 10 1 = rdA q2.2 p0 10 1 := by rw [← es11]; exact rdA_j (by decide)
                        have w8142 : rdA q2.2 p0 10 1 = mm_I q2.2 q5 ((1 : Int32)).toNatClampNeg := rdA_eq eq5
                        have w8141 := rdA_fr (k := 10) (j := 1) gq2 c0 t_p0 (κ' := 60) rfl rfl rfl
                        have w8144 : rdA s11 p0 10 0 = -1 := by rw [← es11]; exact rdA_self eq5
                        have w8146 : rdA s11 p0 9 0 = mm_I s11 q17 ((0 : Int32)).toNatClampNeg := rdA_eq eq17
                        have w8145 : rdA s11 p0 9 0 = rdA q2.2 p0 9 0 := by rw [← es11]; exact rdA_k cq2 t_p0 (κ' := 59) rfl tq5 (by decide)
                        have w8147 := rdA_fr (k := 9) (j := 0) gq2 c0 t_p0 (κ' := 59) rfl rfl rfl
                        have w8151 : rdA q2.2 p0 10 0 = mm_I q2.2 q5 ((0 : Int32)).toNatClampNeg := rdA_eq eq5
                        have w8150 := rdA_fr (k := 10) (j := 0) gq2 c0 t_p0 (κ' := 60) rfl rfl rfl
                        have a8152 := zi_and p3 127 (by decide)
                        have a8153 := zi_and p2 8 (by decide)
                        exact sw_some ⟨cs11, fs11, (by (try simp only [zp, zo, zq] at u5318 xq2 h5319 xq12 h5332 xq14 a5352 u5353 h5354 h5355 h8082 h8083 w8084 w8085 r8086 r8087 r8088 h8089 h8110 h8111 h8132 h8133 w8134 w8137 w8136 w8138 w8140 w8142 w8141 w8144 w8146 w8145 w8147 w8151 w8150 a8152 a8153 ⊢) <;> (try simp only [zz, Int32.reduceToInt, ne_eq] at u5318 xq2 h5319 xq12 h5332 xq14 a5352 u5353 h5354 h5355 h8082 h8083 w8084 w8085 r8086 r8087 r8088 h8089 h8110 h8111 h8132 h8133 w8134 w8137 w8136 w8138 w8140 w8142 w8141 w8144 w8146 w8145 w8147 w8151 w8150 a8152 a8153 ⊢) <;> (try simp (disch := omega) only [zb] at u5318 xq2 h5319 xq12 h5332 xq14 a5352 u5353 h5354 h5355 h8082 h8083 w8084 w8085 r8086 r8087 r8088 h8089 h8110 h8111 h8132 h8133 w8134 w8137 w8136 w8138 w8140 w8142 w8141 w8144 w8146 w8145 w8147 w8151 w8150 a8152 a8153 ⊢) <;> first | omega | ((try simp (disch := omega) only [zb] at u5318 xq2 h5319 xq12 h5332 xq14 a5352 u5353 h5354 h5355 h8082 h8083 w8084 w8085 r8086 r8087 r8088 h8089 h8110 h8111 h8132 h8133 w8134 w8137 w8136 w8138 w8140 w8142 w8141 w8144 w8146 w8145 w8147 w8151 w8150 a8152 a8153 ⊢) <;> omega))⟩
                      · refine sw_sh (ci_sh cs11 t_p0 rfl) ?_
                        refine sw_on (sX9_put cs11 t_p0 (by (try simp only [zp, zo, zq] at u5318 xq2 h5319 xq12 h5332 xq14 a5352 u5353 h5354 h5355 h8082 h8083 w8084 w8085 r8086 r8087 r8088 h8089 h8110 h8111 h8132 h8133 ⊢) <;> (try simp only [zz, Int32.reduceToInt, ne_eq] at u5318 xq2 h5319 xq12 h5332 xq14 a5352 u5353 h5354 h5355 h8082 h8083 w8084 w8085 r8086 r8087 r8088 h8089 h8110 h8111 h8132 h8133 ⊢) <;> (try simp (disch := omega) only [zb] at u5318 xq2 h5319 xq12 h5332 xq14 a5352 u5353 h5354 h5355 h8082 h8083 w8084 w8085 r8086 r8087 r8088 h8089 h8110 h8111 h8132 h8133 ⊢) <;> first | omega | ((try simp (disch := omega) only [zb] at u5318 xq2 h5319 xq12 h5332 xq14 a5352 u5353 h5354 h5355 h8082 h8083 w8084 w8085 r8086 r8087 r8088 h8089 h8110 h8111 h8132 h8133 ⊢) <;> omega)) ) ?_
                        intro q28 hqq28
                        obtain ⟨cq28, gq28, xq28⟩ := hqq28
                        have fq28 := fr_trans fs11 gq28 rfl
                        have w8154 := (gq28.2.2 _ _ t_p0 0 rfl).1
                        have w8155 : mm_I s11 p0 0 = mm_I q2.2 p0 0 := by rw [← es11]; exact rd_k t_p0 tq5 (by decide)
                        have w8157 := rdA_fr (k := 9) (j := 1) gq28 cs11 t_p0 (κ' := 59) rfl rfl rfl
                        have w8159 : rdA s11 p0 9 1 = mm_I s11 q17 ((1 : Int32)).toNatClampNeg := rdA_eq eq17
                        have w8158 : rdA s11 p0 9 1 = rdA q2.2 p0 9 1 := by rw [← es11]; exact rdA_k cq2 t_p0 (κ' := 59) rfl tq5 (by decide)
                        have w8160 := rdA_fr (k := 9) (j := 1) gq2 c0 t_p0 (κ' := 59) rfl rfl rfl
                        have w8162 := rdA_fr (k := 10) (j := 1) gq28 cs11 t_p0 (κ' := 60) rfl rfl rfl
                        have w8163 : rdA s11 p0 10 1 = rdA q2.2 p0 10 1 := by rw [← es11]; exact rdA_j (by decide)
                        have w8165 : rdA q2.2 p0 10 1 = mm_I q2.2 q5 ((1 : Int32)).toNatClampNeg := rdA_eq eq5
                        have w8164 := rdA_fr (k := 10) (j := 1) gq2 c0 t_p0 (κ' := 60) rfl rfl rfl
                        have w8167 := rdA_fr (k := 10) (j := 0) gq28 cs11 t_p0 (κ' := 60) rfl rfl rfl
                        have w8168 : rdA s11 p0 10 0 = -1 := by rw [← es11]; exact rdA_self eq5
                        have w8169 := rdA_fr (k := 9) (j := 0) gq28 cs11 t_p0 (κ' := 59) rfl rfl rfl
                        have w8171 : rdA s11 p0 9 0 = mm_I s11 q17 ((0 : Int32)).toNatClampNeg := rdA_eq eq17
                        have w8170 : rdA s11 p0 9 0 = rdA q2.2 p0 9 0 := by rw [← es11]; exact rdA_k cq2 t_p0 (κ' := 59) rfl tq5 (by decide)
                        have w8172 := rdA_fr (k := 9) (j := 0) gq2 c0 t_p0 (κ' := 59) rfl rfl rfl
                        have w8176 : rdA q2.2 p0 10 0 = mm_I q2.2 q5 ((0 : Int32)).toNatClampNeg := rdA_eq eq5
                        have w8175 := rdA_fr (k := 10) (j := 0) gq2 c0 t_p0 (κ' := 60) rfl rfl rfl
                        have a8177 := zi_and p3 127 (by decide)
                        have a8178 := zi_and p2 8 (by decide)
                        exact sw_some ⟨cq28, fq28, (by (try simp only [zp, zo, zq] at u5318 xq2 h5319 xq12 h5332 xq14 a5352 u5353 h5354 h5355 h8082 h8083 w8084 w8085 r8086 r8087 r8088 h8089 h8110 h8111 h8132 h8133 w8154 w8155 w8157 w8159 w8158 w8160 w8162 w8163 w8165 w8164 w8167 w8168 w8169 w8171 w8170 w8172 w8176 w8175 a8177 a8178 ⊢) <;> (try simp only [zz, Int32.reduceToInt, ne_eq] at u5318 xq2 h5319 xq12 h5332 xq14 a5352 u5353 h5354 h5355 h8082 h8083 w8084 w8085 r8086 r8087 r8088 h8089 h8110 h8111 h8132 h8133 w8154 w8155 w8157 w8159 w8158 w8160 w8162 w8163 w8165 w8164 w8167 w8168 w8169 w8171 w8170 w8172 w8176 w8175 a8177 a8178 ⊢) <;> (try simp (disch := omega) only [zb] at u5318 xq2 h5319 xq12 h5332 xq14 a5352 u5353 h5354 h5355 h8082 h8083 w8084 w8085 r8086 r8087 r8088 h8089 h8110 h8111 h8132 h8133 w8154 w8155 w8157 w8159 w8158 w8160 w8162 w8163 w8165 w8164 w8167 w8168 w8169 w8171 w8170 w8172 w8176 w8175 a8177 a8178 ⊢) <;> first | omega | ((try simp (disch := omega) only [zb] at u5318 xq2 h5319 xq12 h5332 xq14 a5352 u5353 h5354 h5355 h8082 h8083 w8084 w8085 r8086 r8087 r8088 h8089 h8110 h8111 h8132 h8133 w8154 w8155 w8157 w8159 w8158 w8160 w8162 w8163 w8165 w8164 w8167 w8168 w8169 w8171 w8170 w8172 w8176 w8175 a8177 a8178 ⊢) <;> omega))⟩
                    · refine sw_sh (ci_sh cs11 t_p0 rfl) ?_
                      refine sw_on (sX9_put cs11 t_p0 (by (try simp only [zp, zo, zq] at u5318 xq2 h5319 xq12 h5332 xq14 a5352 u5353 h5354 h5355 h8082 h8083 w8084 w8085 r8086 r8087 r8088 h8089 h8110 h8111 h8132 ⊢) <;> (try simp only [zz, Int32.reduceToInt, ne_eq] at u5318 xq2 h5319 xq12 h5332 xq14 a5352 u5353 h5354 h5355 h8082 h8083 w8084 w8085 r8086 r8087 r8088 h8089 h8110 h8111 h8132 ⊢) <;> (try simp (disch := omega) only [zb] at u5318 xq2 h5319 xq12 h5332 xq14 a5352 u5353 h5354 h5355 h8082 h8083 w8084 w8085 r8086 r8087 r8088 h8089 h8110 h8111 h8132 ⊢) <;> first | omega | ((try simp (disch := omega) only [zb] at u5318 xq2 h5319 xq12 h5332 xq14 a5352 u5353 h5354 h5355 h8082 h8083 w8084 w8085 r8086 r8087 r8088 h8089 h8110 h8111 h8132 ⊢) <;> omega)) ) ?_
                      intro q30 hqq30
                      obtain ⟨cq30, gq30, xq30⟩ := hqq30
                      have fq30 := fr_trans fs11 gq30 rfl
                      unfold fX9_pair_264
                      refine sw_ite (fun h8179 => ?_) (fun h8179 => ?_)
                      · have w8180 := (gq30.2.2 _ _ t_p0 0 rfl).1
                        have w8181 : mm_I s11 p0 0 = mm_I q2.2 p0 0 := by rw [← es11]; exact rd_k t_p0 tq5 (by decide)
                        have w8183 := rdA_fr (k := 9) (j := 1) gq30 cs11 t_p0 (κ' := 59) rfl rfl rfl
                        have w8185 : rdA s11 p0 9 1 = mm_I s11 q17 ((1 : Int32)).toNatClampNeg := rdA_eq eq17
                        have w8184 : rdA s11 p0 9 1 = rdA q2.2 p0 9 1 := by rw [← es11]; exact rdA_k cq2 t_p0 (κ' := 59) rfl tq5 (by decide)
                        have w8186 := rdA_fr (k := 9) (j := 1) gq2 c0 t_p0 (κ' := 59) rfl rfl rfl
                        have w8188 := rdA_fr (k := 10) (j := 1) gq30 cs11 t_p0 (κ' := 60) rfl rfl rfl
                        have w8189 : rdA s11 p0 10 1 = rdA q2.2 p0 10 1 := by rw [← es11]; exact rdA_j (by decide)
                        have w8191 : rdA q2.2 p0 10 1 = mm_I q2.2 q5 ((1 : Int32)).toNatClampNeg := rdA_eq eq5
                        have w8190 := rdA_fr (k := 10) (j := 1) gq2 c0 t_p0 (κ' := 60) rfl rfl rfl
                        have w8193 := rdA_fr (k := 10) (j := 0) gq30 cs11 t_p0 (κ' := 60) rfl rfl rfl
                        have w8194 : rdA s11 p0 10 0 = -1 := by rw [← es11]; exact rdA_self eq5
                        have w8195 := rdA_fr (k := 9) (j := 0) gq30 cs11 t_p0 (κ' := 59) rfl rfl rfl
                        have w8197 : rdA s11 p0 9 0 = mm_I s11 q17 ((0 : Int32)).toNatClampNeg := rdA_eq eq17
                        have w8196 : rdA s11 p0 9 0 = rdA q2.2 p0 9 0 := by rw [← es11]; exact rdA_k cq2 t_p0 (κ' := 59) rfl tq5 (by decide)
                        have w8198 := rdA_fr (k := 9) (j := 0) gq2 c0 t_p0 (κ' := 59) rfl rfl rfl
                        have w8202 : rdA q2.2 p0 10 0 = mm_I q2.2 q5 ((0 : Int32)).toNatClampNeg := rdA_eq eq5
                        have w8201 := rdA_fr (k := 10) (j := 0) gq2 c0 t_p0 (κ' := 60) rfl rfl rfl
                        have a8203 := zi_and p3 127 (by decide)
                        have a8204 := zi_and p2 8 (by decide)
                        exact sw_some ⟨cq30, fq30, (by (try simp only [zp, zo, zq] at u5318 xq2 h5319 xq12 h5332 xq14 a5352 u5353 h5354 h5355 h8082 h8083 w8084 w8085 r8086 r8087 r8088 h8089 h8110 h8111 h8132 h8179 w8180 w8181 w8183 w8185 w8184 w8186 w8188 w8189 w8191 w8190 w8193 w8194 w8195 w8197 w8196 w8198 w8202 w8201 a8203 a8204 ⊢) <;> (try simp only [zz, Int32.reduceToInt, ne_eq] at u5318 xq2 h5319 xq12 h5332 xq14 a5352 u5353 h5354 h5355 h8082 h8083 w8084 w8085 r8086 r8087 r8088 h8089 h8110 h8111 h8132 h8179 w8180 w8181 w8183 w8185 w8184 w8186 w8188 w8189 w8191 w8190 w8193 w8194 w8195 w8197 w8196 w8198 w8202 w8201 a8203 a8204 ⊢) <;> (try simp (disch := omega) only [zb] at u5318 xq2 h5319 xq12 h5332 xq14 a5352 u5353 h5354 h5355 h8082 h8083 w8084 w8085 r8086 r8087 r8088 h8089 h8110 h8111 h8132 h8179 w8180 w8181 w8183 w8185 w8184 w8186 w8188 w8189 w8191 w8190 w8193 w8194 w8195 w8197 w8196 w8198 w8202 w8201 a8203 a8204 ⊢) <;> first | omega | ((try simp (disch := omega) only [zb] at u5318 xq2 h5319 xq12 h5332 xq14 a5352 u5353 h5354 h5355 h8082 h8083 w8084 w8085 r8086 r8087 r8088 h8089 h8110 h8111 h8132 h8179 w8180 w8181 w8183 w8185 w8184 w8186 w8188 w8189 w8191 w8190 w8193 w8194 w8195 w8197 w8196 w8198 w8202 w8201 a8203 a8204 ⊢) <;> omega))⟩
                      · refine sw_sh (ci_sh cq30 t_p0 rfl) ?_
                        refine sw_on (sX9_put cq30 t_p0 (by (try simp only [zp, zo, zq] at u5318 xq2 h5319 xq12 h5332 xq14 a5352 u5353 h5354 h5355 h8082 h8083 w8084 w8085 r8086 r8087 r8088 h8089 h8110 h8111 h8132 h8179 ⊢) <;> (try simp only [zz, Int32.reduceToInt, ne_eq] at u5318 xq2 h5319 xq12 h5332 xq14 a5352 u5353 h5354 h5355 h8082 h8083 w8084 w8085 r8086 r8087 r8088 h8089 h8110 h8111 h8132 h8179 ⊢) <;> (try simp (disch := omega) only [zb] at u5318 xq2 h5319 xq12 h5332 xq14 a5352 u5353 h5354 h5355 h8082 h8083 w8084 w8085 r8086 r8087 r8088 h8089 h8110 h8111 h8132 h8179 ⊢) <;> first | omega | ((try simp (disch := omega) only [zb] at u5318 xq2 h5319 xq12 h5332 xq14 a5352 u5353 h5354 h5355 h8082 h8083 w8084 w8085 r8086 r8087 r8088 h8089 h8110 h8111 h8132 h8179 ⊢) <;> omega)) ) ?_
                        intro q28 hqq28
                        obtain ⟨cq28, gq28, xq28⟩ := hqq28
                        have fq28 := fr_trans fq30 gq28 rfl
                        have w8205 := (gq28.2.2 _ _ t_p0 0 rfl).1
                        have w8206 := (gq30.2.2 _ _ t_p0 0 rfl).1
                        have w8207 : mm_I s11 p0 0 = mm_I q2.2 p0 0 := by rw [← es11]; exact rd_k t_p0 tq5 (by decide)
                        have w8209 := rdA_fr (k := 9) (j := 1) gq28 cq30 t_p0 (κ' := 59) rfl rfl rfl
                        have w8210 := rdA_fr (k := 9) (j := 1) gq30 cs11 t_p0 (κ' := 59) rfl rfl rfl
                        have w8212 : rdA s11 p0 9 1 = mm_I s11 q17 ((1 : Int32)).toNatClampNeg := rdA_eq eq17
                        have w8211 : rdA s11 p0 9 1 = rdA q2.2 p0 9 1 := by rw [← es11]; exact rdA_k cq2 t_p0 (κ' := 59) rfl tq5 (by decide)
                        have w8213 := rdA_fr (k := 9) (j := 1) gq2 c0 t_p0 (κ' := 59) rfl rfl rfl
                        have w8215 := rdA_fr (k := 10) (j := 1) gq28 cq30 t_p0 (κ' := 60) rfl rfl rfl
                        have w8216 := rdA_fr (k := 10) (j := 1) gq30 cs11 t_p0 (κ' := 60) rfl rfl rfl
                        have w8217 : rdA s11 p0 10 1 = rdA q2.2 p0 10 1 := by rw [← es11]; exact rdA_j (by decide)
                        have w8219 : rdA q2.2 p0 10 1 = mm_I q2.2 q5 ((1 : Int32)).toNatClampNeg := rdA_eq eq5
                        have w8218 := rdA_fr (k := 10) (j := 1) gq2 c0 t_p0 (κ' := 60) rfl rfl rfl
                        have w8221 := rdA_fr (k := 10) (j := 0) gq28 cq30 t_p0 (κ' := 60) rfl rfl rfl
                        have w8222 := rdA_fr (k := 10) (j := 0) gq30 cs11 t_p0 (κ' := 60) rfl rfl rfl
                        have w8223 : rdA s11 p0 10 0 = -1 := by rw [← es11]; exact rdA_self eq5
                        have w8224 := rdA_fr (k := 9) (j := 0) gq28 cq30 t_p0 (κ' := 59) rfl rfl rfl
                        have w8225 := rdA_fr (k := 9) (j := 0) gq30 cs11 t_p0 (κ' := 59) rfl rfl rfl
                        have w8227 : rdA s11 p0 9 0 = mm_I s11 q17 ((0 : Int32)).toNatClampNeg := rdA_eq eq17
                        have w8226 : rdA s11 p0 9 0 = rdA q2.2 p0 9 0 := by rw [← es11]; exact rdA_k cq2 t_p0 (κ' := 59) rfl tq5 (by decide)
                        have w8228 := rdA_fr (k := 9) (j := 0) gq2 c0 t_p0 (κ' := 59) rfl rfl rfl
                        have w8232 : rdA q2.2 p0 10 0 = mm_I q2.2 q5 ((0 : Int32)).toNatClampNeg := rdA_eq eq5
                        have w8231 := rdA_fr (k := 10) (j := 0) gq2 c0 t_p0 (κ' := 60) rfl rfl rfl
                        have a8233 := zi_and p3 127 (by decide)
                        have a8234 := zi_and p2 8 (by decide)
                        exact sw_some ⟨cq28, fq28, (by (try simp only [zp, zo, zq] at u5318 xq2 h5319 xq12 h5332 xq14 a5352 u5353 h5354 h5355 h8082 h8083 w8084 w8085 r8086 r8087 r8088 h8089 h8110 h8111 h8132 h8179 w8205 w8206 w8207 w8209 w8210 w8212 w8211 w8213 w8215 w8216 w8217 w8219 w8218 w8221 w8222 w8223 w8224 w8225 w8227 w8226 w8228 w8232 w8231 a8233 a8234 ⊢) <;> (try simp only [zz, Int32.reduceToInt, ne_eq] at u5318 xq2 h5319 xq12 h5332 xq14 a5352 u5353 h5354 h5355 h8082 h8083 w8084 w8085 r8086 r8087 r8088 h8089 h8110 h8111 h8132 h8179 w8205 w8206 w8207 w8209 w8210 w8212 w8211 w8213 w8215 w8216 w8217 w8219 w8218 w8221 w8222 w8223 w8224 w8225 w8227 w8226 w8228 w8232 w8231 a8233 a8234 ⊢) <;> (try simp (disch := omega) only [zb] at u5318 xq2 h5319 xq12 h5332 xq14 a5352 u5353 h5354 h5355 h8082 h8083 w8084 w8085 r8086 r8087 r8088 h8089 h8110 h8111 h8132 h8179 w8205 w8206 w8207 w8209 w8210 w8212 w8211 w8213 w8215 w8216 w8217 w8219 w8218 w8221 w8222 w8223 w8224 w8225 w8227 w8226 w8228 w8232 w8231 a8233 a8234 ⊢) <;> first | omega | ((try simp (disch := omega) only [zb] at u5318 xq2 h5319 xq12 h5332 xq14 a5352 u5353 h5354 h5355 h8082 h8083 w8084 w8085 r8086 r8087 r8088 h8089 h8110 h8111 h8132 h8179 w8205 w8206 w8207 w8209 w8210 w8212 w8211 w8213 w8215 w8216 w8217 w8219 w8218 w8221 w8222 w8223 w8224 w8225 w8227 w8226 w8228 w8232 w8231 a8233 a8234 ⊢) <;> omega))⟩
                · unfold fX9_pair_250
                  refine sw_ite (fun h8235 => ?_) (fun h8235 => ?_)
                  · unfold fX9_pair_264
                    refine sw_ite (fun h8236 => ?_) (fun h8236 => ?_)
                    · have w8237 : mm_I s11 p0 0 = mm_I q2.2 p0 0 := by rw [← es11]; exact rd_k t_p0 tq5 (by decide)
                      have w8240 : rdA s11 p0 9 1 = mm_I s11 q17 ((1 : Int32)).toNatClampNeg := rdA_eq eq17
                      have w8239 : rdA s11 p0 9 1 = rdA q2.2 p0 9 1 := by rw [← es11]; exact rdA_k cq2 t_p0 (κ' := 59) rfl tq5 (by decide)
                      have w8241 := rdA_fr (k := 9) (j := 1) gq2 c0 t_p0 (κ' := 59) rfl rfl rfl
                      have w8243 : rdA s11 p0 10 1 = rdA q2.2 p0 10 1 := by rw [← es11]; exact rdA_j (by decide)
                      have w8245 : rdA q2.2 p0 10 1 = mm_I q2.2 q5 ((1 : Int32)).toNatClampNeg := rdA_eq eq5
                      have w8244 := rdA_fr (k := 10) (j := 1) gq2 c0 t_p0 (κ' := 60) rfl rfl rfl
                      have w8247 : rdA s11 p0 10 0 = -1 := by rw [← es11]; exact rdA_self eq5
                      have w8249 : rdA s11 p0 9 0 = mm_I s11 q17 ((0 : Int32)).toNatClampNeg := rdA_eq eq17
                      have w8248 : rdA s11 p0 9 0 = rdA q2.2 p0 9 0 := by rw [← es11]; exact rdA_k cq2 t_p0 (κ' := 59) rfl tq5 (by decide)
                      have w8250 := rdA_fr (k := 9) (j := 0) gq2 c0 t_p0 (κ' := 59) rfl rfl rfl
                      have w8254 : rdA q2.2 p0 10 0 = mm_I q2.2 q5 ((0 : Int32)).toNatClampNeg := rdA_eq eq5
                      have w8253 := rdA_fr (k := 10) (j := 0) gq2 c0 t_p0 (κ' := 60) rfl rfl rfl
                      have a8255 := zi_and p3 127 (by decide)
                      have a8256 := zi_and p2 8 (by decide)
                      exact sw_some ⟨cs11, fs11, (by (try simp only [zp, zo, zq] at u5318 xq2 h5319 xq12 h5332 xq14 a5352 u5353 h5354 h5355 h8082 h8083 w8084 w8085 r8086 r8087 r8088 h8089 h8110 h8235 h8236 w8237 w8240 w8239 w8241 w8243 w8245 w8244 w8247 w8249 w8248 w8250 w8254 w8253 a8255 a8256 ⊢) <;> (try simp only [zz, Int32.reduceToInt, ne_eq] at u5318 xq2 h5319 xq12 h5332 xq14 a5352 u5353 h5354 h5355 h8082 h8083 w8084 w8085 r8086 r8087 r8088 h8089 h8110 h8235 h8236 w8237 w8240 w8239 w8241 w8243 w8245 w8244 w8247 w8249 w8248 w8250 w8254 w8253 a8255 a8256 ⊢) <;> (try simp (disch := omega) only [zb] at u5318 xq2 h5319 xq12 h5332 xq14 a5352 u5353 h5354 h5355 h8082 h8083 w8084 w8085 r8086 r8087 r8088 h8089 h8110 h8235 h8236 w8237 w8240 w8239 w8241 w8243 w8245 w8244 w8247 w8249 w8248 w8250 w8254 w8253 a8255 a8256 ⊢) <;> first | omega | ((try simp (disch := omega) only [zb] at u5318 xq2 h5319 xq12 h5332 xq14 a5352 u5353 h5354 h5355 h8082 h8083 w8084 w8085 r8086 r8087 r8088 h8089 h8110 h8235 h8236 w8237 w8240 w8239 w8241 w8243 w8245 w8244 w8247 w8249 w8248 w8250 w8254 w8253 a8255 a8256 ⊢) <;> omega))⟩
                    · refine sw_sh (ci_sh cs11 t_p0 rfl) ?_
                      refine sw_on (sX9_put cs11 t_p0 (by (try simp only [zp, zo, zq] at u5318 xq2 h5319 xq12 h5332 xq14 a5352 u5353 h5354 h5355 h8082 h8083 w8084 w8085 r8086 r8087 r8088 h8089 h8110 h8235 h8236 ⊢) <;> (try simp only [zz, Int32.reduceToInt, ne_eq] at u5318 xq2 h5319 xq12 h5332 xq14 a5352 u5353 h5354 h5355 h8082 h8083 w8084 w8085 r8086 r8087 r8088 h8089 h8110 h8235 h8236 ⊢) <;> (try simp (disch := omega) only [zb] at u5318 xq2 h5319 xq12 h5332 xq14 a5352 u5353 h5354 h5355 h8082 h8083 w8084 w8085 r8086 r8087 r8088 h8089 h8110 h8235 h8236 ⊢) <;> first | omega | ((try simp (disch := omega) only [zb] at u5318 xq2 h5319 xq12 h5332 xq14 a5352 u5353 h5354 h5355 h8082 h8083 w8084 w8085 r8086 r8087 r8088 h8089 h8110 h8235 h8236 ⊢) <;> omega)) ) ?_
                      intro q28 hqq28
                      obtain ⟨cq28, gq28, xq28⟩ := hqq28
                      have fq28 := fr_trans fs11 gq28 rfl
                      have w8257 := (gq28.2.2 _ _ t_p0 0 rfl).1
                      have w8258 : mm_I s11 p0 0 = mm_I q2.2 p0 0 := by rw [← es11]; exact rd_k t_p0 tq5 (by decide)
                      have w8260 := rdA_fr (k := 9) (j := 1) gq28 cs11 t_p0 (κ' := 59) rfl rfl rfl
                      have w8262 : rdA s11 p0 9 1 = mm_I s11 q17 ((1 : Int32)).toNatClampNeg := rdA_eq eq17
                      have w8261 : rdA s11 p0 9 1 = rdA q2.2 p0 9 1 := by rw [← es11]; exact rdA_k cq2 t_p0 (κ' := 59) rfl tq5 (by decide)
                      have w8263 := rdA_fr (k := 9) (j := 1) gq2 c0 t_p0 (κ' := 59) rfl rfl rfl
                      have w8265 := rdA_fr (k := 10) (j := 1) gq28 cs11 t_p0 (κ' := 60) rfl rfl rfl
                      have w8266 : rdA s11 p0 10 1 = rdA q2.2 p0 10 1 := by rw [← es11]; exact rdA_j (by decide)
                      have w8268 : rdA q2.2 p0 10 1 = mm_I q2.2 q5 ((1 : Int32)).toNatClampNeg := rdA_eq eq5
                      have w8267 := rdA_fr (k := 10) (j := 1) gq2 c0 t_p0 (κ' := 60) rfl rfl rfl
                      have w8270 := rdA_fr (k := 10) (j := 0) gq28 cs11 t_p0 (κ' := 60) rfl rfl rfl
                      have w8271 : rdA s11 p0 10 0 = -1 := by rw [← es11]; exact rdA_self eq5
                      have w8272 := rdA_fr (k := 9) (j := 0) gq28 cs11 t_p0 (κ' := 59) rfl rfl rfl
                      have w8274 : rdA s11 p0 9 0 = mm_I s11 q17 ((0 : Int32)).toNatClampNeg := rdA_eq eq17
                      have w8273 : rdA s11 p0 9 0 = rdA q2.2 p0 9 0 := by rw [← es11]; exact rdA_k cq2 t_p0 (κ' := 59) rfl tq5 (by decide)
                      have w8275 := rdA_fr (k := 9) (j := 0) gq2 c0 t_p0 (κ' := 59) rfl rfl rfl
                      have w8279 : rdA q2.2 p0 10 0 = mm_I q2.2 q5 ((0 : Int32)).toNatClampNeg := rdA_eq eq5
                      have w8278 := rdA_fr (k := 10) (j := 0) gq2 c0 t_p0 (κ' := 60) rfl rfl rfl
                      have a8280 := zi_and p3 127 (by decide)
                      have a8281 := zi_and p2 8 (by decide)
                      exact sw_some ⟨cq28, fq28, (by (try simp only [zp, zo, zq] at u5318 xq2 h5319 xq12 h5332 xq14 a5352 u5353 h5354 h5355 h8082 h8083 w8084 w8085 r8086 r8087 r8088 h8089 h8110 h8235 h8236 w8257 w8258 w8260 w8262 w8261 w8263 w8265 w8266 w8268 w8267 w8270 w8271 w8272 w8274 w8273 w8275 w8279 w8278 a8280 a8281 ⊢) <;> (try simp only [zz, Int32.reduceToInt, ne_eq] at u5318 xq2 h5319 xq12 h5332 xq14 a5352 u5353 h5354 h5355 h8082 h8083 w8084 w8085 r8086 r8087 r8088 h8089 h8110 h8235 h8236 w8257 w8258 w8260 w8262 w8261 w8263 w8265 w8266 w8268 w8267 w8270 w8271 w8272 w8274 w8273 w8275 w8279 w8278 a8280 a8281 ⊢) <;> (try simp (disch := omega) only [zb] at u5318 xq2 h5319 xq12 h5332 xq14 a5352 u5353 h5354 h5355 h8082 h8083 w8084 w8085 r8086 r8087 r8088 h8089 h8110 h8235 h8236 w8257 w8258 w8260 w8262 w8261 w8263 w8265 w8266 w8268 w8267 w8270 w8271 w8272 w8274 w8273 w8275 w8279 w8278 a8280 a8281 ⊢) <;> first | omega | ((try simp (disch := omega) only [zb] at u5318 xq2 h5319 xq12 h5332 xq14 a5352 u5353 h5354 h5355 h8082 h8083 w8084 w8085 r8086 r8087 r8088 h8089 h8110 h8235 h8236 w8257 w8258 w8260 w8262 w8261 w8263 w8265 w8266 w8268 w8267 w8270 w8271 w8272 w8274 w8273 w8275 w8279 w8278 a8280 a8281 ⊢) <;> omega))⟩
                  · refine sw_sh (ci_sh cs11 t_p0 rfl) ?_
                    refine sw_on (sX9_put cs11 t_p0 (by (try simp only [zp, zo, zq] at u5318 xq2 h5319 xq12 h5332 xq14 a5352 u5353 h5354 h5355 h8082 h8083 w8084 w8085 r8086 r8087 r8088 h8089 h8110 h8235 ⊢) <;> (try simp only [zz, Int32.reduceToInt, ne_eq] at u5318 xq2 h5319 xq12 h5332 xq14 a5352 u5353 h5354 h5355 h8082 h8083 w8084 w8085 r8086 r8087 r8088 h8089 h8110 h8235 ⊢) <;> (try simp (disch := omega) only [zb] at u5318 xq2 h5319 xq12 h5332 xq14 a5352 u5353 h5354 h5355 h8082 h8083 w8084 w8085 r8086 r8087 r8088 h8089 h8110 h8235 ⊢) <;> first | omega | ((try simp (disch := omega) only [zb] at u5318 xq2 h5319 xq12 h5332 xq14 a5352 u5353 h5354 h5355 h8082 h8083 w8084 w8085 r8086 r8087 r8088 h8089 h8110 h8235 ⊢) <;> omega)) ) ?_
                    intro q30 hqq30
                    obtain ⟨cq30, gq30, xq30⟩ := hqq30
                    have fq30 := fr_trans fs11 gq30 rfl
                    unfold fX9_pair_264
                    refine sw_ite (fun h8282 => ?_) (fun h8282 => ?_)
                    · have w8283 := (gq30.2.2 _ _ t_p0 0 rfl).1
                      have w8284 : mm_I s11 p0 0 = mm_I q2.2 p0 0 := by rw [← es11]; exact rd_k t_p0 tq5 (by decide)
                      have w8286 := rdA_fr (k := 9) (j := 1) gq30 cs11 t_p0 (κ' := 59) rfl rfl rfl
                      have w8288 : rdA s11 p0 9 1 = mm_I s11 q17 ((1 : Int32)).toNatClampNeg := rdA_eq eq17
                      have w8287 : rdA s11 p0 9 1 = rdA q2.2 p0 9 1 := by rw [← es11]; exact rdA_k cq2 t_p0 (κ' := 59) rfl tq5 (by decide)
                      have w8289 := rdA_fr (k := 9) (j := 1) gq2 c0 t_p0 (κ' := 59) rfl rfl rfl
                      have w8291 := rdA_fr (k := 10) (j := 1) gq30 cs11 t_p0 (κ' := 60) rfl rfl rfl
                      have w8292 : rdA s11 p0 10 1 = rdA q2.2 p0 10 1 := by rw [← es11]; exact rdA_j (by decide)
                      have w8294 : rdA q2.2 p0 10 1 = mm_I q2.2 q5 ((1 : Int32)).toNatClampNeg := rdA_eq eq5
                      have w8293 := rdA_fr (k := 10) (j := 1) gq2 c0 t_p0 (κ' := 60) rfl rfl rfl
                      have w8296 := rdA_fr (k := 10) (j := 0) gq30 cs11 t_p0 (κ' := 60) rfl rfl rfl
                      have w8297 : rdA s11 p0 10 0 = -1 := by rw [← es11]; exact rdA_self eq5
                      have w8298 := rdA_fr (k := 9) (j := 0) gq30 cs11 t_p0 (κ' := 59) rfl rfl rfl
                      have w8300 : rdA s11 p0 9 0 = mm_I s11 q17 ((0 : Int32)).toNatClampNeg := rdA_eq eq17
                      have w8299 : rdA s11 p0 9 0 = rdA q2.2 p0 9 0 := by rw [← es11]; exact rdA_k cq2 t_p0 (κ' := 59) rfl tq5 (by decide)
                      have w8301 := rdA_fr (k := 9) (j := 0) gq2 c0 t_p0 (κ' := 59) rfl rfl rfl
                      have w8305 : rdA q2.2 p0 10 0 = mm_I q2.2 q5 ((0 : Int32)).toNatClampNeg := rdA_eq eq5
                      have w8304 := rdA_fr (k := 10) (j := 0) gq2 c0 t_p0 (κ' := 60) rfl rfl rfl
                      have a8306 := zi_and p3 127 (by decide)
                      have a8307 := zi_and p2 8 (by decide)
                      exact sw_some ⟨cq30, fq30, (by (try simp only [zp, zo, zq] at u5318 xq2 h5319 xq12 h5332 xq14 a5352 u5353 h5354 h5355 h8082 h8083 w8084 w8085 r8086 r8087 r8088 h8089 h8110 h8235 h8282 w8283 w8284 w8286 w8288 w8287 w8289 w8291 w8292 w8294 w8293 w8296 w8297 w8298 w8300 w8299 w8301 w8305 w8304 a8306 a8307 ⊢) <;> (try simp only [zz, Int32.reduceToInt, ne_eq] at u5318 xq2 h5319 xq12 h5332 xq14 a5352 u5353 h5354 h5355 h8082 h8083 w8084 w8085 r8086 r8087 r8088 h8089 h8110 h8235 h8282 w8283 w8284 w8286 w8288 w8287 w8289 w8291 w8292 w8294 w8293 w8296 w8297 w8298 w8300 w8299 w8301 w8305 w8304 a8306 a8307 ⊢) <;> (try simp (disch := omega) only [zb] at u5318 xq2 h5319 xq12 h5332 xq14 a5352 u5353 h5354 h5355 h8082 h8083 w8084 w8085 r8086 r8087 r8088 h8089 h8110 h8235 h8282 w8283 w8284 w8286 w8288 w8287 w8289 w8291 w8292 w8294 w8293 w8296 w8297 w8298 w8300 w8299 w8301 w8305 w8304 a8306 a8307 ⊢) <;> first | omega | ((try simp (disch := omega) only [zb] at u5318 xq2 h5319 xq12 h5332 xq14 a5352 u5353 h5354 h5355 h8082 h8083 w8084 w8085 r8086 r8087 r8088 h8089 h8110 h8235 h8282 w8283 w8284 w8286 w8288 w8287 w8289 w8291 w8292 w8294 w8293 w8296 w8297 w8298 w8300 w8299 w8301 w8305 w8304 a8306 a8307 ⊢) <;> omega))⟩
                    · refine sw_sh (ci_sh cq30 t_p0 rfl) ?_
                      refine sw_on (sX9_put cq30 t_p0 (by (try simp only [zp, zo, zq] at u5318 xq2 h5319 xq12 h5332 xq14 a5352 u5353 h5354 h5355 h8082 h8083 w8084 w8085 r8086 r8087 r8088 h8089 h8110 h8235 h8282 ⊢) <;> (try simp only [zz, Int32.reduceToInt, ne_eq] at u5318 xq2 h5319 xq12 h5332 xq14 a5352 u5353 h5354 h5355 h8082 h8083 w8084 w8085 r8086 r8087 r8088 h8089 h8110 h8235 h8282 ⊢) <;> (try simp (disch := omega) only [zb] at u5318 xq2 h5319 xq12 h5332 xq14 a5352 u5353 h5354 h5355 h8082 h8083 w8084 w8085 r8086 r8087 r8088 h8089 h8110 h8235 h8282 ⊢) <;> first | omega | ((try simp (disch := omega) only [zb] at u5318 xq2 h5319 xq12 h5332 xq14 a5352 u5353 h5354 h5355 h8082 h8083 w8084 w8085 r8086 r8087 r8088 h8089 h8110 h8235 h8282 ⊢) <;> omega)) ) ?_
                      intro q28 hqq28
                      obtain ⟨cq28, gq28, xq28⟩ := hqq28
                      have fq28 := fr_trans fq30 gq28 rfl
                      have w8308 := (gq28.2.2 _ _ t_p0 0 rfl).1
                      have w8309 := (gq30.2.2 _ _ t_p0 0 rfl).1
                      have w8310 : mm_I s11 p0 0 = mm_I q2.2 p0 0 := by rw [← es11]; exact rd_k t_p0 tq5 (by decide)
                      have w8312 := rdA_fr (k := 9) (j := 1) gq28 cq30 t_p0 (κ' := 59) rfl rfl rfl
                      have w8313 := rdA_fr (k := 9) (j := 1) gq30 cs11 t_p0 (κ' := 59) rfl rfl rfl
                      have w8315 : rdA s11 p0 9 1 = mm_I s11 q17 ((1 : Int32)).toNatClampNeg := rdA_eq eq17
                      have w8314 : rdA s11 p0 9 1 = rdA q2.2 p0 9 1 := by rw [← es11]; exact rdA_k cq2 t_p0 (κ' := 59) rfl tq5 (by decide)
                      have w8316 := rdA_fr (k := 9) (j := 1) gq2 c0 t_p0 (κ' := 59) rfl rfl rfl
                      have w8318 := rdA_fr (k := 10) (j := 1) gq28 cq30 t_p0 (κ' := 60) rfl rfl rfl
                      have w8319 := rdA_fr (k := 10) (j := 1) gq30 cs11 t_p0 (κ' := 60) rfl rfl rfl
                      have w8320 : rdA s11 p0 10 1 = rdA q2.2 p0 10 1 := by rw [← es11]; exact rdA_j (by decide)
                      have w8322 : rdA q2.2 p0 10 1 = mm_I q2.2 q5 ((1 : Int32)).toNatClampNeg := rdA_eq eq5
                      have w8321 := rdA_fr (k := 10) (j := 1) gq2 c0 t_p0 (κ' := 60) rfl rfl rfl
                      have w8324 := rdA_fr (k := 10) (j := 0) gq28 cq30 t_p0 (κ' := 60) rfl rfl rfl
                      have w8325 := rdA_fr (k := 10) (j := 0) gq30 cs11 t_p0 (κ' := 60) rfl rfl rfl
                      have w8326 : rdA s11 p0 10 0 = -1 := by rw [← es11]; exact rdA_self eq5
                      have w8327 := rdA_fr (k := 9) (j := 0) gq28 cq30 t_p0 (κ' := 59) rfl rfl rfl
                      have w8328 := rdA_fr (k := 9) (j := 0) gq30 cs11 t_p0 (κ' := 59) rfl rfl rfl
                      have w8330 : rdA s11 p0 9 0 = mm_I s11 q17 ((0 : Int32)).toNatClampNeg := rdA_eq eq17
                      have w8329 : rdA s11 p0 9 0 = rdA q2.2 p0 9 0 := by rw [← es11]; exact rdA_k cq2 t_p0 (κ' := 59) rfl tq5 (by decide)
                      have w8331 := rdA_fr (k := 9) (j := 0) gq2 c0 t_p0 (κ' := 59) rfl rfl rfl
                      have w8335 : rdA q2.2 p0 10 0 = mm_I q2.2 q5 ((0 : Int32)).toNatClampNeg := rdA_eq eq5
                      have w8334 := rdA_fr (k := 10) (j := 0) gq2 c0 t_p0 (κ' := 60) rfl rfl rfl
                      have a8336 := zi_and p3 127 (by decide)
                      have a8337 := zi_and p2 8 (by decide)
                      exact sw_some ⟨cq28, fq28, (by (try simp only [zp, zo, zq] at u5318 xq2 h5319 xq12 h5332 xq14 a5352 u5353 h5354 h5355 h8082 h8083 w8084 w8085 r8086 r8087 r8088 h8089 h8110 h8235 h8282 w8308 w8309 w8310 w8312 w8313 w8315 w8314 w8316 w8318 w8319 w8320 w8322 w8321 w8324 w8325 w8326 w8327 w8328 w8330 w8329 w8331 w8335 w8334 a8336 a8337 ⊢) <;> (try simp only [zz, Int32.reduceToInt, ne_eq] at u5318 xq2 h5319 xq12 h5332 xq14 a5352 u5353 h5354 h5355 h8082 h8083 w8084 w8085 r8086 r8087 r8088 h8089 h8110 h8235 h8282 w8308 w8309 w8310 w8312 w8313 w8315 w8314 w8316 w8318 w8319 w8320 w8322 w8321 w8324 w8325 w8326 w8327 w8328 w8330 w8329 w8331 w8335 w8334 a8336 a8337 ⊢) <;> (try simp (disch := omega) only [zb] at u5318 xq2 h5319 xq12 h5332 xq14 a5352 u5353 h5354 h5355 h8082 h8083 w8084 w8085 r8086 r8087 r8088 h8089 h8110 h8235 h8282 w8308 w8309 w8310 w8312 w8313 w8315 w8314 w8316 w8318 w8319 w8320 w8322 w8321 w8324 w8325 w8326 w8327 w8328 w8330 w8329 w8331 w8335 w8334 a8336 a8337 ⊢) <;> first | omega | ((try simp (disch := omega) only [zb] at u5318 xq2 h5319 xq12 h5332 xq14 a5352 u5353 h5354 h5355 h8082 h8083 w8084 w8085 r8086 r8087 r8088 h8089 h8110 h8235 h8282 w8308 w8309 w8310 w8312 w8313 w8315 w8314 w8316 w8318 w8319 w8320 w8322 w8321 w8324 w8325 w8326 w8327 w8328 w8330 w8329 w8331 w8335 w8334 a8336 a8337 ⊢) <;> omega))⟩
            · have a8338 := zi_and p3 127 (by decide)
              refine sw_ite (fun h8339 => ?_) (fun h8339 => ?_)
              · unfold fX9_pair_227
                unfold fX9_pair_228
                have w8340 : mm_I s11 q17 ((0 : Int32).toNatClampNeg) = mm_I q2.2 q17 ((0 : Int32).toNatClampNeg) := by rw [← es11]; exact rd_k tq17 tq5 (by decide)
                have w8341 := (gq2.2.2 _ _ tq17 ((0 : Int32).toNatClampNeg) rfl).1
                have r8342 := ci_rg c0 tq17 ((0 : Int32).toNatClampNeg) (lo := (-1)) (hi := 3) rfl
                have r8343 := ci_rg cq2 tq17 ((0 : Int32).toNatClampNeg) (lo := (-1)) (hi := 3) rfl
                have r8344 := ci_rg cs11 tq17 ((0 : Int32).toNatClampNeg) (lo := (-1)) (hi := 3) rfl
                refine sw_ite (fun h8345 => ?_) (fun h8345 => ?_)
                · have w8346 : mm_I s11 p0 0 = mm_I q2.2 p0 0 := by rw [← es11]; exact rd_k t_p0 tq5 (by decide)
                  have w8349 : rdA s11 p0 9 1 = mm_I s11 q17 ((1 : Int32)).toNatClampNeg := rdA_eq eq17
                  have w8348 : rdA s11 p0 9 1 = rdA q2.2 p0 9 1 := by rw [← es11]; exact rdA_k cq2 t_p0 (κ' := 59) rfl tq5 (by decide)
                  have w8350 := rdA_fr (k := 9) (j := 1) gq2 c0 t_p0 (κ' := 59) rfl rfl rfl
                  have w8352 : rdA s11 p0 10 1 = rdA q2.2 p0 10 1 := by rw [← es11]; exact rdA_j (by decide)
                  have w8354 : rdA q2.2 p0 10 1 = mm_I q2.2 q5 ((1 : Int32)).toNatClampNeg := rdA_eq eq5
                  have w8353 := rdA_fr (k := 10) (j := 1) gq2 c0 t_p0 (κ' := 60) rfl rfl rfl
                  have w8356 : rdA s11 p0 10 0 = -1 := by rw [← es11]; exact rdA_self eq5
                  have w8358 : rdA s11 p0 9 0 = mm_I s11 q17 ((0 : Int32)).toNatClampNeg := rdA_eq eq17
                  have w8357 : rdA s11 p0 9 0 = rdA q2.2 p0 9 0 := by rw [← es11]; exact rdA_k cq2 t_p0 (κ' := 59) rfl tq5 (by decide)
                  have w8359 := rdA_fr (k := 9) (j := 0) gq2 c0 t_p0 (κ' := 59) rfl rfl rfl
                  have w8363 : rdA q2.2 p0 10 0 = mm_I q2.2 q5 ((0 : Int32)).toNatClampNeg := rdA_eq eq5
                  have w8362 := rdA_fr (k := 10) (j := 0) gq2 c0 t_p0 (κ' := 60) rfl rfl rfl
                  have a8364 := zi_and p2 8 (by decide)
                  exact sw_some ⟨cs11, fs11, (by (try simp only [zp, zo, zq] at u5318 xq2 h5319 xq12 h5332 xq14 a5352 u5353 h5354 h5355 h8082 h8083 a8338 h8339 w8340 w8341 r8342 r8343 r8344 h8345 w8346 w8349 w8348 w8350 w8352 w8354 w8353 w8356 w8358 w8357 w8359 w8363 w8362 a8364 ⊢) <;> (try simp only [zz, Int32.reduceToInt, ne_eq] at u5318 xq2 h5319 xq12 h5332 xq14 a5352 u5353 h5354 h5355 h8082 h8083 a8338 h8339 w8340 w8341 r8342 r8343 r8344 h8345 w8346 w8349 w8348 w8350 w8352 w8354 w8353 w8356 w8358 w8357 w8359 w8363 w8362 a8364 ⊢) <;> (try simp (disch := omega) only [zb] at u5318 xq2 h5319 xq12 h5332 xq14 a5352 u5353 h5354 h5355 h8082 h8083 a8338 h8339 w8340 w8341 r8342 r8343 r8344 h8345 w8346 w8349 w8348 w8350 w8352 w8354 w8353 w8356 w8358 w8357 w8359 w8363 w8362 a8364 ⊢) <;> first | omega | ((try simp (disch := omega) only [zb] at u5318 xq2 h5319 xq12 h5332 xq14 a5352 u5353 h5354 h5355 h8082 h8083 a8338 h8339 w8340 w8341 r8342 r8343 r8344 h8345 w8346 w8349 w8348 w8350 w8352 w8354 w8353 w8356 w8358 w8357 w8359 w8363 w8362 a8364 ⊢) <;> omega))⟩
                · refine sw_ite (fun h8365 => ?_) (fun h8365 => ?_)
                  · refine sw_ite (fun h8366 => ?_) (fun h8366 => ?_)
                    · have w8367 : mm_I s11 p0 0 = mm_I q2.2 p0 0 := by rw [← es11]; exact rd_k t_p0 tq5 (by decide)
                      have w8370 : rdA s11 p0 9 1 = mm_I s11 q17 ((1 : Int32)).toNatClampNeg := rdA_eq eq17
                      have w8369 : rdA s11 p0 9 1 = rdA q2.2 p0 9 1 := by rw [← es11]; exact rdA_k cq2 t_p0 (κ' := 59) rfl tq5 (by decide)
                      have w8371 := rdA_fr (k := 9) (j := 1) gq2 c0 t_p0 (κ' := 59) rfl rfl rfl
                      have w8373 : rdA s11 p0 10 1 = rdA q2.2 p0 10 1 := by rw [← es11]; exact rdA_j (by decide)
                      have w8375 : rdA q2.2 p0 10 1 = mm_I q2.2 q5 ((1 : Int32)).toNatClampNeg := rdA_eq eq5
                      have w8374 := rdA_fr (k := 10) (j := 1) gq2 c0 t_p0 (κ' := 60) rfl rfl rfl
                      have w8377 : rdA s11 p0 10 0 = -1 := by rw [← es11]; exact rdA_self eq5
                      have w8379 : rdA s11 p0 9 0 = mm_I s11 q17 ((0 : Int32)).toNatClampNeg := rdA_eq eq17
                      have w8378 : rdA s11 p0 9 0 = rdA q2.2 p0 9 0 := by rw [← es11]; exact rdA_k cq2 t_p0 (κ' := 59) rfl tq5 (by decide)
                      have w8380 := rdA_fr (k := 9) (j := 0) gq2 c0 t_p0 (κ' := 59) rfl rfl rfl
                      have w8384 : rdA q2.2 p0 10 0 = mm_I q2.2 q5 ((0 : Int32)).toNatClampNeg := rdA_eq eq5
                      have w8383 := rdA_fr (k := 10) (j := 0) gq2 c0 t_p0 (κ' := 60) rfl rfl rfl
                      have a8385 := zi_and p2 8 (by decide)
                      exact sw_some ⟨cs11, fs11, (by (try simp only [zp, zo, zq] at u5318 xq2 h5319 xq12 h5332 xq14 a5352 u5353 h5354 h5355 h8082 h8083 a8338 h8339 w8340 w8341 r8342 r8343 r8344 h8345 h8365 h8366 w8367 w8370 w8369 w8371 w8373 w8375 w8374 w8377 w8379 w8378 w8380 w8384 w8383 a8385 ⊢) <;> (try simp only [zz, Int32.reduceToInt, ne_eq] at u5318 xq2 h5319 xq12 h5332 xq14 a5352 u5353 h5354 h5355 h8082 h8083 a8338 h8339 w8340 w8341 r8342 r8343 r8344 h8345 h8365 h8366 w8367 w8370 w8369 w8371 w8373 w8375 w8374 w8377 w8379 w8378 w8380 w8384 w8383 a8385 ⊢) <;> (try simp (disch := omega) only [zb] at u5318 xq2 h5319 xq12 h5332 xq14 a5352 u5353 h5354 h5355 h8082 h8083 a8338 h8339 w8340 w8341 r8342 r8343 r8344 h8345 h8365 h8366 w8367 w8370 w8369 w8371 w8373 w8375 w8374 w8377 w8379 w8378 w8380 w8384 w8383 a8385 ⊢) <;> first | omega | ((try simp (disch := omega) only [zb] at u5318 xq2 h5319 xq12 h5332 xq14 a5352 u5353 h5354 h5355 h8082 h8083 a8338 h8339 w8340 w8341 r8342 r8343 r8344 h8345 h8365 h8366 w8367 w8370 w8369 w8371 w8373 w8375 w8374 w8377 w8379 w8378 w8380 w8384 w8383 a8385 ⊢) <;> omega))⟩
                    · unfold fX9_pair_250
                      refine sw_ite (fun h8386 => ?_) (fun h8386 => ?_)
                      · unfold fX9_pair_264
                        refine sw_ite (fun h8387 => ?_) (fun h8387 => ?_)
                        · have w8388 : mm_I s11 p0 0 = mm_I q2.2 p0 0 := by rw [← es11]; exact rd_k t_p0 tq5 (by decide)
                          have w8391 : rdA s11 p0 9 1 = mm_I s11 q17 ((1 : Int32)).toNatClampNeg := rdA_eq eq17
                          have w8390 : rdA s11 p0 9 1 = rdA q2.2 p0 9 1 := by rw [← es11]; exact rdA_k cq2 t_p0 (κ' := 59) rfl tq5 (by decide)
                          have w8392 := rdA_fr (k := 9) (j := 1) gq2 c0 t_p0 (κ' := 59) rfl rfl rfl
                          have w8394 : rdA s11 p0 10 1 = rdA q2.2 p0 10 1 := by rw [← es11]; exact rdA_j (by decide)
                          have w8396 : rdA q2.2 p0 10 1 = mm_I q2.2 q5 ((1 : Int32)).toNatClampNeg := rdA_eq eq5
                          have w8395 := rdA_fr (k := 10) (j := 1) gq2 c0 t_p0 (κ' := 60) rfl rfl rfl
                          have w8398 : rdA s11 p0 10 0 = -1 := by rw [← es11]; exact rdA_self eq5
                          have w8400 : rdA s11 p0 9 0 = mm_I s11 q17 ((0 : Int32)).toNatClampNeg := rdA_eq eq17
                          have w8399 : rdA s11 p0 9 0 = rdA q2.2 p0 9 0 := by rw [← es11]; exact rdA_k cq2 t_p0 (κ' := 59) rfl tq5 (by decide)
                          have w8401 := rdA_fr (k := 9) (j := 0) gq2 c0 t_p0 (κ' := 59) rfl rfl rfl
                          have w8405 : rdA q2.2 p0 10 0 = mm_I q2.2 q5 ((0 : Int32)).toNatClampNeg := rdA_eq eq5
                          have w8404 := rdA_fr (k := 10) (j := 0) gq2 c0 t_p0 (κ' := 60) rfl rfl rfl
                          have a8406 := zi_and p2 8 (by decide)
                          exact sw_some ⟨cs11, fs11, (by (try simp only [zp, zo, zq] at u5318 xq2 h5319 xq12 h5332 xq14 a5352 u5353 h5354 h5355 h8082 h8083 a8338 h8339 w8340 w8341 r8342 r8343 r8344 h8345 h8365 h8366 h8386 h8387 w8388 w8391 w8390 w8392 w8394 w8396 w8395 w8398 w8400 w8399 w8401 w8405 w8404 a8406 ⊢) <;> (try simp only [zz, Int32.reduceToInt, ne_eq] at u5318 xq2 h5319 xq12 h5332 xq14 a5352 u5353 h5354 h5355 h8082 h8083 a8338 h8339 w8340 w8341 r8342 r8343 r8344 h8345 h8365 h8366 h8386 h8387 w8388 w8391 w8390 w8392 w8394 w8396 w8395 w8398 w8400 w8399 w8401 w8405 w8404 a8406 ⊢) <;> (try simp (disch := omega) only [zb] at u5318 xq2 h5319 xq12 h5332 xq14 a5352 u5353 h5354 h5355 h8082 h8083 a8338 h8339 w8340 w8341 r8342 r8343 r8344 h8345 h8365 h8366 h8386 h8387 w8388 w8391 w8390 w8392 w8394 w8396 w8395 w8398 w8400 w8399 w8401 w8405 w8404 a8406 ⊢) <;> first | omega | ((try simp (disch := omega) only [zb] at u5318 xq2 h5319 xq12 h5332 xq14 a5352 u5353 h5354 h5355 h8082 h8083 a8338 h8339 w8340 w8341 r8342 r8343 r8344 h8345 h8365 h8366 h8386 h8387 w8388 w8391 w8390 w8392 w8394 w8396 w8395 w8398 w8400 w8399 w8401 w8405 w8404 a8406 ⊢) <;> omega))⟩
                        · refine sw_sh (ci_sh cs11 t_p0 rfl) ?_
                          refine sw_on (sX9_put cs11 t_p0 (by (try simp only [zp, zo, zq] at u5318 xq2 h5319 xq12 h5332 xq14 a5352 u5353 h5354 h5355 h8082 h8083 a8338 h8339 w8340 w8341 r8342 r8343 r8344 h8345 h8365 h8366 h8386 h8387 ⊢) <;> (try simp only [zz, Int32.reduceToInt, ne_eq] at u5318 xq2 h5319 xq12 h5332 xq14 a5352 u5353 h5354 h5355 h8082 h8083 a8338 h8339 w8340 w8341 r8342 r8343 r8344 h8345 h8365 h8366 h8386 h8387 ⊢) <;> (try simp (disch := omega) only [zb] at u5318 xq2 h5319 xq12 h5332 xq14 a5352 u5353 h5354 h5355 h8082 h8083 a8338 h8339 w8340 w8341 r8342 r8343 r8344 h8345 h8365 h8366 h8386 h8387 ⊢) <;> first | omega | ((try simp (disch := omega) only [zb] at u5318 xq2 h5319 xq12 h5332 xq14 a5352 u5353 h5354 h5355 h8082 h8083 a8338 h8339 w8340 w8341 r8342 r8343 r8344 h8345 h8365 h8366 h8386 h8387 ⊢) <;> omega)) ) ?_
                          intro q28 hqq28
                          obtain ⟨cq28, gq28, xq28⟩ := hqq28
                          have fq28 := fr_trans fs11 gq28 rfl
                          have w8407 := (gq28.2.2 _ _ t_p0 0 rfl).1
                          have w8408 : mm_I s11 p0 0 = mm_I q2.2 p0 0 := by rw [← es11]; exact rd_k t_p0 tq5 (by decide)
                          have w8410 := rdA_fr (k := 9) (j := 1) gq28 cs11 t_p0 (κ' := 59) rfl rfl rfl
                          have w8412 : rdA s11 p0 9 1 = mm_I s11 q17 ((1 : Int32)).toNatClampNeg := rdA_eq eq17
                          have w8411 : rdA s11 p0 9 1 = rdA q2.2 p0 9 1 := by rw [← es11]; exact rdA_k cq2 t_p0 (κ' := 59) rfl tq5 (by decide)
                          have w8413 := rdA_fr (k := 9) (j := 1) gq2 c0 t_p0 (κ' := 59) rfl rfl rfl
                          have w8415 := rdA_fr (k := 10) (j := 1) gq28 cs11 t_p0 (κ' := 60) rfl rfl rfl
                          have w8416 : rdA s11 p0 10 1 = rdA q2.2 p0 10 1 := by rw [← es11]; exact rdA_j (by decide)
                          have w8418 : rdA q2.2 p0 10 1 = mm_I q2.2 q5 ((1 : Int32)).toNatClampNeg := rdA_eq eq5
                          have w8417 := rdA_fr (k := 10) (j := 1) gq2 c0 t_p0 (κ' := 60) rfl rfl rfl
                          have w8420 := rdA_fr (k := 10) (j := 0) gq28 cs11 t_p0 (κ' := 60) rfl rfl rfl
                          have w8421 : rdA s11 p0 10 0 = -1 := by rw [← es11]; exact rdA_self eq5
                          have w8422 := rdA_fr (k := 9) (j := 0) gq28 cs11 t_p0 (κ' := 59) rfl rfl rfl
                          have w8424 : rdA s11 p0 9 0 = mm_I s11 q17 ((0 : Int32)).toNatClampNeg := rdA_eq eq17
                          have w8423 : rdA s11 p0 9 0 = rdA q2.2 p0 9 0 := by rw [← es11]; exact rdA_k cq2 t_p0 (κ' := 59) rfl tq5 (by decide)
                          have w8425 := rdA_fr (k := 9) (j := 0) gq2 c0 t_p0 (κ' := 59) rfl rfl rfl
                          have w8429 : rdA q2.2 p0 10 0 = mm_I q2.2 q5 ((0 : Int32)).toNatClampNeg := rdA_eq eq5
                          have w8428 := rdA_fr (k := 10) (j := 0) gq2 c0 t_p0 (κ' := 60) rfl rfl rfl
                          have a8430 := zi_and p2 8 (by decide)
                          exact sw_some ⟨cq28, fq28, (by (try simp only [zp, zo, zq] at u5318 xq2 h5319 xq12 h5332 xq14 a5352 u5353 h5354 h5355 h8082 h8083 a8338 h8339 w8340 w8341 r8342 r8343 r8344 h8345 h8365 h8366 h8386 h8387 w8407 w8408 w8410 w8412 w8411 w8413 w8415 w8416 w8418 w8417 w8420 w8421 w8422 w8424 w8423 w8425 w8429 w8428 a8430 ⊢) <;> (try simp only [zz, Int32.reduceToInt, ne_eq] at u5318 xq2 h5319 xq12 h5332 xq14 a5352 u5353 h5354 h5355 h8082 h8083 a8338 h8339 w8340 w8341 r8342 r8343 r8344 h8345 h8365 h8366 h8386 h8387 w8407 w8408 w8410 w8412 w8411 w8413 w8415 w8416 w8418 w8417 w8420 w8421 w8422 w8424 w8423 w8425 w8429 w8428 a8430 ⊢) <;> (try simp (disch := omega) only [zb] at u5318 xq2 h5319 xq12 h5332 xq14 a5352 u5353 h5354 h5355 h8082 h8083 a8338 h8339 w8340 w8341 r8342 r8343 r8344 h8345 h8365 h8366 h8386 h8387 w8407 w8408 w8410 w8412 w8411 w8413 w8415 w8416 w8418 w8417 w8420 w8421 w8422 w8424 w8423 w8425 w8429 w8428 a8430 ⊢) <;> first | omega | ((try simp (disch := omega) only [zb] at u5318 xq2 h5319 xq12 h5332 xq14 a5352 u5353 h5354 h5355 h8082 h8083 a8338 h8339 w8340 w8341 r8342 r8343 r8344 h8345 h8365 h8366 h8386 h8387 w8407 w8408 w8410 w8412 w8411 w8413 w8415 w8416 w8418 w8417 w8420 w8421 w8422 w8424 w8423 w8425 w8429 w8428 a8430 ⊢) <;> omega))⟩
                      · refine sw_sh (ci_sh cs11 t_p0 rfl) ?_
                        refine sw_on (sX9_put cs11 t_p0 (by (try simp only [zp, zo, zq] at u5318 xq2 h5319 xq12 h5332 xq14 a5352 u5353 h5354 h5355 h8082 h8083 a8338 h8339 w8340 w8341 r8342 r8343 r8344 h8345 h8365 h8366 h8386 ⊢) <;> (try simp only [zz, Int32.reduceToInt, ne_eq] at u5318 xq2 h5319 xq12 h5332 xq14 a5352 u5353 h5354 h5355 h8082 h8083 a8338 h8339 w8340 w8341 r8342 r8343 r8344 h8345 h8365 h8366 h8386 ⊢) <;> (try simp (disch := omega) only [zb] at u5318 xq2 h5319 xq12 h5332 xq14 a5352 u5353 h5354 h5355 h8082 h8083 a8338 h8339 w8340 w8341 r8342 r8343 r8344 h8345 h8365 h8366 h8386 ⊢) <;> first | omega | ((try simp (disch := omega) only [zb] at u5318 xq2 h5319 xq12 h5332 xq14 a5352 u5353 h5354 h5355 h8082 h8083 a8338 h8339 w8340 w8341 r8342 r8343 r8344 h8345 h8365 h8366 h8386 ⊢) <;> omega)) ) ?_
                        intro q30 hqq30
                        obtain ⟨cq30, gq30, xq30⟩ := hqq30
                        have fq30 := fr_trans fs11 gq30 rfl
                        unfold fX9_pair_264
                        refine sw_ite (fun h8431 => ?_) (fun h8431 => ?_)
                        · have w8432 := (gq30.2.2 _ _ t_p0 0 rfl).1
                          have w8433 : mm_I s11 p0 0 = mm_I q2.2 p0 0 := by rw [← es11]; exact rd_k t_p0 tq5 (by decide)
                          have w8435 := rdA_fr (k := 9) (j := 1) gq30 cs11 t_p0 (κ' := 59) rfl rfl rfl
                          have w8437 : rdA s11 p0 9 1 = mm_I s11 q17 ((1 : Int32)).toNatClampNeg := rdA_eq eq17
                          have w8436 : rdA s11 p0 9 1 = rdA q2.2 p0 9 1 := by rw [← es11]; exact rdA_k cq2 t_p0 (κ' := 59) rfl tq5 (by decide)
                          have w8438 := rdA_fr (k := 9) (j := 1) gq2 c0 t_p0 (κ' := 59) rfl rfl rfl
                          have w8440 := rdA_fr (k := 10) (j := 1) gq30 cs11 t_p0 (κ' := 60) rfl rfl rfl
                          have w8441 : rdA s11 p0 10 1 = rdA q2.2 p0 10 1 := by rw [← es11]; exact rdA_j (by decide)
                          have w8443 : rdA q2.2 p0 10 1 = mm_I q2.2 q5 ((1 : Int32)).toNatClampNeg := rdA_eq eq5
                          have w8442 := rdA_fr (k := 10) (j := 1) gq2 c0 t_p0 (κ' := 60) rfl rfl rfl
                          have w8445 := rdA_fr (k := 10) (j := 0) gq30 cs11 t_p0 (κ' := 60) rfl rfl rfl
                          have w8446 : rdA s11 p0 10 0 = -1 := by rw [← es11]; exact rdA_self eq5
                          have w8447 := rdA_fr (k := 9) (j := 0) gq30 cs11 t_p0 (κ' := 59) rfl rfl rfl
                          have w8449 : rdA s11 p0 9 0 = mm_I s11 q17 ((0 : Int32)).toNatClampNeg := rdA_eq eq17
                          have w8448 : rdA s11 p0 9 0 = rdA q2.2 p0 9 0 := by rw [← es11]; exact rdA_k cq2 t_p0 (κ' := 59) rfl tq5 (by decide)
                          have w8450 := rdA_fr (k := 9) (j := 0) gq2 c0 t_p0 (κ' := 59) rfl rfl rfl
                          have w8454 : rdA q2.2 p0 10 0 = mm_I q2.2 q5 ((0 : Int32)).toNatClampNeg := rdA_eq eq5
                          have w8453 := rdA_fr (k := 10) (j := 0) gq2 c0 t_p0 (κ' := 60) rfl rfl rfl
                          have a8455 := zi_and p2 8 (by decide)
                          exact sw_some ⟨cq30, fq30, (by (try simp only [zp, zo, zq] at u5318 xq2 h5319 xq12 h5332 xq14 a5352 u5353 h5354 h5355 h8082 h8083 a8338 h8339 w8340 w8341 r8342 r8343 r8344 h8345 h8365 h8366 h8386 h8431 w8432 w8433 w8435 w8437 w8436 w8438 w8440 w8441 w8443 w8442 w8445 w8446 w8447 w8449 w8448 w8450 w8454 w8453 a8455 ⊢) <;> (try simp only [zz, Int32.reduceToInt, ne_eq] at u5318 xq2 h5319 xq12 h5332 xq14 a5352 u5353 h5354 h5355 h8082 h8083 a8338 h8339 w8340 w8341 r8342 r8343 r8344 h8345 h8365 h8366 h8386 h8431 w8432 w8433 w8435 w8437 w8436 w8438 w8440 w8441 w8443 w8442 w8445 w8446 w8447 w8449 w8448 w8450 w8454 w8453 a8455 ⊢) <;> (try simp (disch := omega) only [zb] at u5318 xq2 h5319 xq12 h5332 xq14 a5352 u5353 h5354 h5355 h8082 h8083 a8338 h8339 w8340 w8341 r8342 r8343 r8344 h8345 h8365 h8366 h8386 h8431 w8432 w8433 w8435 w8437 w8436 w8438 w8440 w8441 w8443 w8442 w8445 w8446 w8447 w8449 w8448 w8450 w8454 w8453 a8455 ⊢) <;> first | omega | ((try simp (disch := omega) only [zb] at u5318 xq2 h5319 xq12 h5332 xq14 a5352 u5353 h5354 h5355 h8082 h8083 a8338 h8339 w8340 w8341 r8342 r8343 r8344 h8345 h8365 h8366 h8386 h8431 w8432 w8433 w8435 w8437 w8436 w8438 w8440 w8441 w8443 w8442 w8445 w8446 w8447 w8449 w8448 w8450 w8454 w8453 a8455 ⊢) <;> omega))⟩
                        · refine sw_sh (ci_sh cq30 t_p0 rfl) ?_
                          refine sw_on (sX9_put cq30 t_p0 (by (try simp only [zp, zo, zq] at u5318 xq2 h5319 xq12 h5332 xq14 a5352 u5353 h5354 h5355 h8082 h8083 a8338 h8339 w8340 w8341 r8342 r8343 r8344 h8345 h8365 h8366 h8386 h8431 ⊢) <;> (try simp only [zz, Int32.reduceToInt, ne_eq] at u5318 xq2 h5319 xq12 h5332 xq14 a5352 u5353 h5354 h5355 h8082 h8083 a8338 h8339 w8340 w8341 r8342 r8343 r8344 h8345 h8365 h8366 h8386 h8431 ⊢) <;> (try simp (disch := omega) only [zb] at u5318 xq2 h5319 xq12 h5332 xq14 a5352 u5353 h5354 h5355 h8082 h8083 a8338 h8339 w8340 w8341 r8342 r8343 r8344 h8345 h8365 h8366 h8386 h8431 ⊢) <;> first | omega | ((try simp (disch := omega) only [zb] at u5318 xq2 h5319 xq12 h5332 xq14 a5352 u5353 h5354 h5355 h8082 h8083 a8338 h8339 w8340 w8341 r8342 r8343 r8344 h8345 h8365 h8366 h8386 h8431 ⊢) <;> omega)) ) ?_
                          intro q28 hqq28
                          obtain ⟨cq28, gq28, xq28⟩ := hqq28
                          have fq28 := fr_trans fq30 gq28 rfl
                          have w8456 := (gq28.2.2 _ _ t_p0 0 rfl).1
                          have w8457 := (gq30.2.2 _ _ t_p0 0 rfl).1
                          have w8458 : mm_I s11 p0 0 = mm_I q2.2 p0 0 := by rw [← es11]; exact rd_k t_p0 tq5 (by decide)
                          have w8460 := rdA_fr (k := 9) (j := 1) gq28 cq30 t_p0 (κ' := 59) rfl rfl rfl
                          have w8461 := rdA_fr (k := 9) (j := 1) gq30 cs11 t_p0 (κ' := 59) rfl rfl rfl
                          have w8463 : rdA s11 p0 9 1 = mm_I s11 q17 ((1 : Int32)).toNatClampNeg := rdA_eq eq17
                          have w8462 : rdA s11 p0 9 1 = rdA q2.2 p0 9 1 := by rw [← es11]; exact rdA_k cq2 t_p0 (κ' := 59) rfl tq5 (by decide)
                          have w8464 := rdA_fr (k := 9) (j := 1) gq2 c0 t_p0 (κ' := 59) rfl rfl rfl
                          have w8466 := rdA_fr (k := 10) (j := 1) gq28 cq30 t_p0 (κ' := 60) rfl rfl rfl
                          have w8467 := rdA_fr (k := 10) (j := 1) gq30 cs11 t_p0 (κ' := 60) rfl rfl rfl
                          have w8468 : rdA s11 p0 10 1 = rdA q2.2 p0 10 1 := by rw [← es11]; exact rdA_j (by decide)
                          have w8470 : rdA q2.2 p0 10 1 = mm_I q2.2 q5 ((1 : Int32)).toNatClampNeg := rdA_eq eq5
                          have w8469 := rdA_fr (k := 10) (j := 1) gq2 c0 t_p0 (κ' := 60) rfl rfl rfl
                          have w8472 := rdA_fr (k := 10) (j := 0) gq28 cq30 t_p0 (κ' := 60) rfl rfl rfl
                          have w8473 := rdA_fr (k := 10) (j := 0) gq30 cs11 t_p0 (κ' := 60) rfl rfl rfl
                          have w8474 : rdA s11 p0 10 0 = -1 := by rw [← es11]; exact rdA_self eq5
                          have w8475 := rdA_fr (k := 9) (j := 0) gq28 cq30 t_p0 (κ' := 59) rfl rfl rfl
                          have w8476 := rdA_fr (k := 9) (j := 0) gq30 cs11 t_p0 (κ' := 59) rfl rfl rfl
                          have w8478 : rdA s11 p0 9 0 = mm_I s11 q17 ((0 : Int32)).toNatClampNeg := rdA_eq eq17
                          have w8477 : rdA s11 p0 9 0 = rdA q2.2 p0 9 0 := by rw [← es11]; exact rdA_k cq2 t_p0 (κ' := 59) rfl tq5 (by decide)
                          have w8479 := rdA_fr (k := 9) (j := 0) gq2 c0 t_p0 (κ' := 59) rfl rfl rfl
                          have w8483 : rdA q2.2 p0 10 0 = mm_I q2.2 q5 ((0 : Int32)).toNatClampNeg := rdA_eq eq5
                          have w8482 := rdA_fr (k := 10) (j := 0) gq2 c0 t_p0 (κ' := 60) rfl rfl rfl
                          have a8484 := zi_and p2 8 (by decide)
                          exact sw_some ⟨cq28, fq28, (by (try simp only [zp, zo, zq] at u5318 xq2 h5319 xq12 h5332 xq14 a5352 u5353 h5354 h5355 h8082 h8083 a8338 h8339 w8340 w8341 r8342 r8343 r8344 h8345 h8365 h8366 h8386 h8431 w8456 w8457 w8458 w8460 w8461 w8463 w8462 w8464 w8466 w8467 w8468 w8470 w8469 w8472 w8473 w8474 w8475 w8476 w8478 w8477 w8479 w8483 w8482 a8484 ⊢) <;> (try simp only [zz, Int32.reduceToInt, ne_eq] at u5318 xq2 h5319 xq12 h5332 xq14 a5352 u5353 h5354 h5355 h8082 h8083 a8338 h8339 w8340 w8341 r8342 r8343 r8344 h8345 h8365 h8366 h8386 h8431 w8456 w8457 w8458 w8460 w8461 w8463 w8462 w8464 w8466 w8467 w8468 w8470 w8469 w8472 w8473 w8474 w8475 w8476 w8478 w8477 w8479 w8483 w8482 a8484 ⊢) <;> (try simp (disch := omega) only [zb] at u5318 xq2 h5319 xq12 h5332 xq14 a5352 u5353 h5354 h5355 h8082 h8083 a8338 h8339 w8340 w8341 r8342 r8343 r8344 h8345 h8365 h8366 h8386 h8431 w8456 w8457 w8458 w8460 w8461 w8463 w8462 w8464 w8466 w8467 w8468 w8470 w8469 w8472 w8473 w8474 w8475 w8476 w8478 w8477 w8479 w8483 w8482 a8484 ⊢) <;> first | omega | ((try simp (disch := omega) only [zb] at u5318 xq2 h5319 xq12 h5332 xq14 a5352 u5353 h5354 h5355 h8082 h8083 a8338 h8339 w8340 w8341 r8342 r8343 r8344 h8345 h8365 h8366 h8386 h8431 w8456 w8457 w8458 w8460 w8461 w8463 w8462 w8464 w8466 w8467 w8468 w8470 w8469 w8472 w8473 w8474 w8475 w8476 w8478 w8477 w8479 w8483 w8482 a8484 ⊢) <;> omega))⟩
                  · unfold fX9_pair_250
                    refine sw_ite (fun h8485 => ?_) (fun h8485 => ?_)
                    · unfold fX9_pair_264
                      refine sw_ite (fun h8486 => ?_) (fun h8486 => ?_)
                      · have w8487 : mm_I s11 p0 0 = mm_I q2.2 p0 0 := by rw [← es11]; exact rd_k t_p0 tq5 (by decide)
                        have w8490 : rdA s11 p0 9 1 = mm_I s11 q17 ((1 : Int32)).toNatClampNeg := rdA_eq eq17
                        have w8489 : rdA s11 p0 9 1 = rdA q2.2 p0 9 1 := by rw [← es11]; exact rdA_k cq2 t_p0 (κ' := 59) rfl tq5 (by decide)
                        have w8491 := rdA_fr (k := 9) (j := 1) gq2 c0 t_p0 (κ' := 59) rfl rfl rfl
                        have w8493 : rdA s11 p0 10 1 = rdA q2.2 p0 10 1 := by rw [← es11]; exact rdA_j (by decide)
                        have w8495 : rdA q2.2 p0 10 1 = mm_I q2.2 q5 ((1 : Int32)).toNatClampNeg := rdA_eq eq5
                        have w8494 := rdA_fr (k := 10) (j := 1) gq2 c0 t_p0 (κ' := 60) rfl rfl rfl
                        have w8497 : rdA s11 p0 10 0 = -1 := by rw [← es11]; exact rdA_self eq5
                        have w8499 : rdA s11 p0 9 0 = mm_I s11 q17 ((0 : Int32)).toNatClampNeg := rdA_eq eq17
                        have w8498 : rdA s11 p0 9 0 = rdA q2.2 p0 9 0 := by rw [← es11]; exact rdA_k cq2 t_p0 (κ' := 59) rfl tq5 (by decide)
                        have w8500 := rdA_fr (k := 9) (j := 0) gq2 c0 t_p0 (κ' := 59) rfl rfl rfl
                        have w8504 : rdA q2.2 p0 10 0 = mm_I q2.2 q5 ((0 : Int32)).toNatClampNeg := rdA_eq eq5
                        have w8503 := rdA_fr (k := 10) (j := 0) gq2 c0 t_p0 (κ' := 60) rfl rfl rfl
                        have a8505 := zi_and p2 8 (by decide)
                        exact sw_some ⟨cs11, fs11, (by (try simp only [zp, zo, zq] at u5318 xq2 h5319 xq12 h5332 xq14 a5352 u5353 h5354 h5355 h8082 h8083 a8338 h8339 w8340 w8341 r8342 r8343 r8344 h8345 h8365 h8485 h8486 w8487 w8490 w8489 w8491 w8493 w8495 w8494 w8497 w8499 w8498 w8500 w8504 w8503 a8505 ⊢) <;> (try simp only [zz, Int32.reduceToInt, ne_eq] at u5318 xq2 h5319 xq12 h5332 xq14 a5352 u5353 h5354 h5355 h8082 h8083 a8338 h8339 w8340 w8341 r8342 r8343 r8344 h8345 h8365 h8485 h8486 w8487 w8490 w8489 w8491 w8493 w8495 w8494 w8497 w8499 w8498 w8500 w8504 w8503 a8505 ⊢) <;> (try simp (disch := omega) only [zb] at u5318 xq2 h5319 xq12 h5332 xq14 a5352 u5353 h5354 h5355 h8082 h8083 a8338 h8339 w8340 w8341 r8342 r8343 r8344 h8345 h8365 h8485 h8486 w8487 w8490 w8489 w8491 w8493 w8495 w8494 w8497 w8499 w8498 w8500 w8504 w8503 a8505 ⊢) <;> first | omega | ((try simp (disch := omega) only [zb] at u5318 xq2 h5319 xq12 h5332 xq14 a5352 u5353 h5354 h5355 h8082 h8083 a8338 h8339 w8340 w8341 r8342 r8343 r8344 h8345 h8365 h8485 h8486 w8487 w8490 w8489 w8491 w8493 w8495 w8494 w8497 w8499 w8498 w8500 w8504 w8503 a8505 ⊢) <;> omega))⟩
                      · refine sw_sh (ci_sh cs11 t_p0 rfl) ?_
                        refine sw_on (sX9_put cs11 t_p0 (by (try simp only [zp, zo, zq] at u5318 xq2 h5319 xq12 h5332 xq14 a5352 u5353 h5354 h5355 h8082 h8083 a8338 h8339 w8340 w8341 r8342 r8343 r8344 h8345 h8365 h8485 h8486 ⊢) <;> (try simp only [zz, Int32.reduceToInt, ne_eq] at u5318 xq2 h5319 xq12 h5332 xq14 a5352 u5353 h5354 h5355 h8082 h8083 a8338 h8339 w8340 w8341 r8342 r8343 r8344 h8345 h8365 h8485 h8486 ⊢) <;> (try simp (disch := omega) only [zb] at u5318 xq2 h5319 xq12 h5332 xq14 a5352 u5353 h5354 h5355 h8082 h8083 a8338 h8339 w8340 w8341 r8342 r8343 r8344 h8345 h8365 h8485 h8486 ⊢) <;> first | omega | ((try simp (disch := omega) only [zb] at u5318 xq2 h5319 xq12 h5332 xq14 a5352 u5353 h5354 h5355 h8082 h8083 a8338 h8339 w8340 w8341 r8342 r8343 r8344 h8345 h8365 h8485 h8486 ⊢) <;> omega)) ) ?_
                        intro q28 hqq28
                        obtain ⟨cq28, gq28, xq28⟩ := hqq28
                        have fq28 := fr_trans fs11 gq28 rfl
                        have w8506 := (gq28.2.2 _ _ t_p0 0 rfl).1
                        have w8507 : mm_I s11 p0 0 = mm_I q2.2 p0 0 := by rw [← es11]; exact rd_k t_p0 tq5 (by decide)
                        have w8509 := rdA_fr (k := 9) (j := 1) gq28 cs11 t_p0 (κ' := 59) rfl rfl rfl
                        have w8511 : rdA s11 p0 9 1 = mm_I s11 q17 ((1 : Int32)).toNatClampNeg := rdA_eq eq17
                        have w8510 : rdA s11 p0 9 1 = rdA q2.2 p0 9 1 := by rw [← es11]; exact rdA_k cq2 t_p0 (κ' := 59) rfl tq5 (by decide)
                        have w8512 := rdA_fr (k := 9) (j := 1) gq2 c0 t_p0 (κ' := 59) rfl rfl rfl
                        have w8514 := rdA_fr (k := 10) (j := 1) gq28 cs11 t_p0 (κ' := 60) rfl rfl rfl
                        have w8515 : rdA s11 p0 10 1 = rdA q2.2 p0 10 1 := by rw [← es11]; exact rdA_j (by decide)
                        have w8517 : rdA q2.2 p0 10 1 = mm_I q2.2 q5 ((1 : Int32)).toNatClampNeg := rdA_eq eq5
                        have w8516 := rdA_fr (k := 10) (j := 1) gq2 c0 t_p0 (κ' := 60) rfl rfl rfl
                        have w8519 := rdA_fr (k := 10) (j := 0) gq28 cs11 t_p0 (κ' := 60) rfl rfl rfl
                        have w8520 : rdA s11 p0 10 0 = -1 := by rw [← es11]; exact rdA_self eq5
                        have w8521 := rdA_fr (k := 9) (j := 0) gq28 cs11 t_p0 (κ' := 59) rfl rfl rfl
                        have w8523 : rdA s11 p0 9 0 = mm_I s11 q17 ((0 : Int32)).toNatClampNeg := rdA_eq eq17
                        have w8522 : rdA s11 p0 9 0 = rdA q2.2 p0 9 0 := by rw [← es11]; exact rdA_k cq2 t_p0 (κ' := 59) rfl tq5 (by decide)
                        have w8524 := rdA_fr (k := 9) (j := 0) gq2 c0 t_p0 (κ' := 59) rfl rfl rfl
                        have w8528 : rdA q2.2 p0 10 0 = mm_I q2.2 q5 ((0 : Int32)).toNatClampNeg := rdA_eq eq5
                        have w8527 := rdA_fr (k := 10) (j := 0) gq2 c0 t_p0 (κ' := 60) rfl rfl rfl
                        have a8529 := zi_and p2 8 (by decide)
                        exact sw_some ⟨cq28, fq28, (by (try simp only [zp, zo, zq] at u5318 xq2 h5319 xq12 h5332 xq14 a5352 u5353 h5354 h5355 h8082 h8083 a8338 h8339 w8340 w8341 r8342 r8343 r8344 h8345 h8365 h8485 h8486 w8506 w8507 w8509 w8511 w8510 w8512 w8514 w8515 w8517 w8516 w8519 w8520 w8521 w8523 w8522 w8524 w8528 w8527 a8529 ⊢) <;> (try simp only [zz, Int32.reduceToInt, ne_eq] at u5318 xq2 h5319 xq12 h5332 xq14 a5352 u5353 h5354 h5355 h8082 h8083 a8338 h8339 w8340 w8341 r8342 r8343 r8344 h8345 h8365 h8485 h8486 w8506 w8507 w8509 w8511 w8510 w8512 w8514 w8515 w8517 w8516 w8519 w8520 w8521 w8523 w8522 w8524 w8528 w8527 a8529 ⊢) <;> (try simp (disch := omega) only [zb] at u5318 xq2 h5319 xq12 h5332 xq14 a5352 u5353 h5354 h5355 h8082 h8083 a8338 h8339 w8340 w8341 r8342 r8343 r8344 h8345 h8365 h8485 h8486 w8506 w8507 w8509 w8511 w8510 w8512 w8514 w8515 w8517 w8516 w8519 w8520 w8521 w8523 w8522 w8524 w8528 w8527 a8529 ⊢) <;> first | omega | ((try simp (disch := omega) only [zb] at u5318 xq2 h5319 xq12 h5332 xq14 a5352 u5353 h5354 h5355 h8082 h8083 a8338 h8339 w8340 w8341 r8342 r8343 r8344 h8345 h8365 h8485 h8486 w8506 w8507 w8509 w8511 w8510 w8512 w8514 w8515 w8517 w8516 w8519 w8520 w8521 w8523 w8522 w8524 w8528 w8527 a8529 ⊢) <;> omega))⟩
                    · refine sw_sh (ci_sh cs11 t_p0 rfl) ?_
                      refine sw_on (sX9_put cs11 t_p0 (by (try simp only [zp, zo, zq] at u5318 xq2 h5319 xq12 h5332 xq14 a5352 u5353 h5354 h5355 h8082 h8083 a8338 h8339 w8340 w8341 r8342 r8343 r8344 h8345 h8365 h8485 ⊢) <;> (try simp only [zz, Int32.reduceToInt, ne_eq] at u5318 xq2 h5319 xq12 h5332 xq14 a5352 u5353 h5354 h5355 h8082 h8083 a8338 h8339 w8340 w8341 r8342 r8343 r8344 h8345 h8365 h8485 ⊢) <;> (try simp (disch := omega) only [zb] at u5318 xq2 h5319 xq12 h5332 xq14 a5352 u5353 h5354 h5355 h8082 h8083 a8338 h8339 w8340 w8341 r8342 r8343 r8344 h8345 h8365 h8485 ⊢) <;> first | omega | ((try simp (disch := omega) only [zb] at u5318 xq2 h5319 xq12 h5332 xq14 a5352 u5353 h5354 h5355 h8082 h8083 a8338 h8339 w8340 w8341 r8342 r8343 r8344 h8345 h8365 h8485 ⊢) <;> omega)) ) ?_
                      intro q30 hqq30
                      obtain ⟨cq30, gq30, xq30⟩ := hqq30
                      have fq30 := fr_trans fs11 gq30 rfl
                      unfold fX9_pair_264
                      refine sw_ite (fun h8530 => ?_) (fun h8530 => ?_)
                      · have w8531 := (gq30.2.2 _ _ t_p0 0 rfl).1
                        have w8532 : mm_I s11 p0 0 = mm_I q2.2 p0 0 := by rw [← es11]; exact rd_k t_p0 tq5 (by decide)
                        have w8534 := rdA_fr (k := 9) (j := 1) gq30 cs11 t_p0 (κ' := 59) rfl rfl rfl
                        have w8536 : rdA s11 p0 9 1 = mm_I s11 q17 ((1 : Int32)).toNatClampNeg := rdA_eq eq17
                        have w8535 : rdA s11 p0 9 1 = rdA q2.2 p0 9 1 := by rw [← es11]; exact rdA_k cq2 t_p0 (κ' := 59) rfl tq5 (by decide)
                        have w8537 := rdA_fr (k := 9) (j := 1) gq2 c0 t_p0 (κ' := 59) rfl rfl rfl
                        have w8539 := rdA_fr (k := 10) (j := 1) gq30 cs11 t_p0 (κ' := 60) rfl rfl rfl
                        have w8540 : rdA s11 p0 10 1 = rdA q2.2 p0 10 1 := by rw [← es11]; exact rdA_j (by decide)
                        have w8542 : rdA q2.2 p0 10 1 = mm_I q2.2 q5 ((1 : Int32)).toNatClampNeg := rdA_eq eq5
                        have w8541 := rdA_fr (k := 10) (j := 1) gq2 c0 t_p0 (κ' := 60) rfl rfl rfl
                        have w8544 := rdA_fr (k := 10) (j := 0) gq30 cs11 t_p0 (κ' := 60) rfl rfl rfl
                        have w8545 : rdA s11 p0 10 0 = -1 := by rw [← es11]; exact rdA_self eq5
                        have w8546 := rdA_fr (k := 9) (j := 0) gq30 cs11 t_p0 (κ' := 59) rfl rfl rfl
                        have w8548 : rdA s11 p0 9 0 = mm_I s11 q17 ((0 : Int32)).toNatClampNeg := rdA_eq eq17
                        have w8547 : rdA s11 p0 9 0 = rdA q2.2 p0 9 0 := by rw [← es11]; exact rdA_k cq2 t_p0 (κ' := 59) rfl tq5 (by decide)
                        have w8549 := rdA_fr (k := 9) (j := 0) gq2 c0 t_p0 (κ' := 59) rfl rfl rfl
                        have w8553 : rdA q2.2 p0 10 0 = mm_I q2.2 q5 ((0 : Int32)).toNatClampNeg := rdA_eq eq5
                        have w8552 := rdA_fr (k := 10) (j := 0) gq2 c0 t_p0 (κ' := 60) rfl rfl rfl
                        have a8554 := zi_and p2 8 (by decide)
                        exact sw_some ⟨cq30, fq30, (by (try simp only [zp, zo, zq] at u5318 xq2 h5319 xq12 h5332 xq14 a5352 u5353 h5354 h5355 h8082 h8083 a8338 h8339 w8340 w8341 r8342 r8343 r8344 h8345 h8365 h8485 h8530 w8531 w8532 w8534 w8536 w8535 w8537 w8539 w8540 w8542 w8541 w8544 w8545 w8546 w8548 w8547 w8549 w8553 w8552 a8554 ⊢) <;> (try simp only [zz, Int32.reduceToInt, ne_eq] at u5318 xq2 h5319 xq12 h5332 xq14 a5352 u5353 h5354 h5355 h8082 h8083 a8338 h8339 w8340 w8341 r8342 r8343 r8344 h8345 h8365 h8485 h8530 w8531 w8532 w8534 w8536 w8535 w8537 w8539 w8540 w8542 w8541 w8544 w8545 w8546 w8548 w8547 w8549 w8553 w8552 a8554 ⊢) <;> (try simp (disch := omega) only [zb] at u5318 xq2 h5319 xq12 h5332 xq14 a5352 u5353 h5354 h5355 h8082 h8083 a8338 h8339 w8340 w8341 r8342 r8343 r8344 h8345 h8365 h8485 h8530 w8531 w8532 w8534 w8536 w8535 w8537 w8539 w8540 w8542 w8541 w8544 w8545 w8546 w8548 w8547 w8549 w8553 w8552 a8554 ⊢) <;> first | omega | ((try simp (disch := omega) only [zb] at u5318 xq2 h5319 xq12 h5332 xq14 a5352 u5353 h5354 h5355 h8082 h8083 a8338 h8339 w8340 w8341 r8342 r8343 r8344 h8345 h8365 h8485 h8530 w8531 w8532 w8534 w8536 w8535 w8537 w8539 w8540 w8542 w8541 w8544 w8545 w8546 w8548 w8547 w8549 w8553 w8552 a8554 ⊢) <;> omega))⟩
                      · refine sw_sh (ci_sh cq30 t_p0 rfl) ?_
                        refine sw_on (sX9_put cq30 t_p0 (by (try simp only [zp, zo, zq] at u5318 xq2 h5319 xq12 h5332 xq14 a5352 u5353 h5354 h5355 h8082 h8083 a8338 h8339 w8340 w8341 r8342 r8343 r8344 h8345 h8365 h8485 h8530 ⊢) <;> (try simp only [zz, Int32.reduceToInt, ne_eq] at u5318 xq2 h5319 xq12 h5332 xq14 a5352 u5353 h5354 h5355 h8082 h8083 a8338 h8339 w8340 w8341 r8342 r8343 r8344 h8345 h8365 h8485 h8530 ⊢) <;> (try simp (disch := omega) only [zb] at u5318 xq2 h5319 xq12 h5332 xq14 a5352 u5353 h5354 h5355 h8082 h8083 a8338 h8339 w8340 w8341 r8342 r8343 r8344 h8345 h8365 h8485 h8530 ⊢) <;> first | omega | ((try simp (disch := omega) only [zb] at u5318 xq2 h5319 xq12 h5332 xq14 a5352 u5353 h5354 h5355 h8082 h8083 a8338 h8339 w8340 w8341 r8342 r8343 r8344 h8345 h8365 h8485 h8530 ⊢) <;> omega)) ) ?_
                        intro q28 hqq28
                        obtain ⟨cq28, gq28, xq28⟩ := hqq28
                        have fq28 := fr_trans fq30 gq28 rfl
                        have w8555 := (gq28.2.2 _ _ t_p0 0 rfl).1
                        have w8556 := (gq30.2.2 _ _ t_p0 0 rfl).1
                        have w8557 : mm_I s11 p0 0 = mm_I q2.2 p0 0 := by rw [← es11]; exact rd_k t_p0 tq5 (by decide)
                        have w8559 := rdA_fr (k := 9) (j := 1) gq28 cq30 t_p0 (κ' := 59) rfl rfl rfl
                        have w8560 := rdA_fr (k := 9) (j := 1) gq30 cs11 t_p0 (κ' := 59) rfl rfl rfl
                        have w8562 : rdA s11 p0 9 1 = mm_I s11 q17 ((1 : Int32)).toNatClampNeg := rdA_eq eq17
                        have w8561 : rdA s11 p0 9 1 = rdA q2.2 p0 9 1 := by rw [← es11]; exact rdA_k cq2 t_p0 (κ' := 59) rfl tq5 (by decide)
                        have w8563 := rdA_fr (k := 9) (j := 1) gq2 c0 t_p0 (κ' := 59) rfl rfl rfl
                        have w8565 := rdA_fr (k := 10) (j := 1) gq28 cq30 t_p0 (κ' := 60) rfl rfl rfl
                        have w8566 := rdA_fr (k := 10) (j := 1) gq30 cs11 t_p0 (κ' := 60) rfl rfl rfl
                        have w8567 : rdA s11 p0 10 1 = rdA q2.2 p0 10 1 := by rw [← es11]; exact rdA_j (by decide)
                        have w8569 : rdA q2.2 p0 10 1 = mm_I q2.2 q5 ((1 : Int32)).toNatClampNeg := rdA_eq eq5
                        have w8568 := rdA_fr (k := 10) (j := 1) gq2 c0 t_p0 (κ' := 60) rfl rfl rfl
                        have w8571 := rdA_fr (k := 10) (j := 0) gq28 cq30 t_p0 (κ' := 60) rfl rfl rfl
                        have w8572 := rdA_fr (k := 10) (j := 0) gq30 cs11 t_p0 (κ' := 60) rfl rfl rfl
                        have w8573 : rdA s11 p0 10 0 = -1 := by rw [← es11]; exact rdA_self eq5
                        have w8574 := rdA_fr (k := 9) (j := 0) gq28 cq30 t_p0 (κ' := 59) rfl rfl rfl
                        have w8575 := rdA_fr (k := 9) (j := 0) gq30 cs11 t_p0 (κ' := 59) rfl rfl rfl
                        have w8577 : rdA s11 p0 9 0 = mm_I s11 q17 ((0 : Int32)).toNatClampNeg := rdA_eq eq17
                        have w8576 : rdA s11 p0 9 0 = rdA q2.2 p0 9 0 := by rw [← es11]; exact rdA_k cq2 t_p0 (κ' := 59) rfl tq5 (by decide)
                        have w8578 := rdA_fr (k := 9) (j := 0) gq2 c0 t_p0 (κ' := 59) rfl rfl rfl
                        have w8582 : rdA q2.2 p0 10 0 = mm_I q2.2 q5 ((0 : Int32)).toNatClampNeg := rdA_eq eq5
                        have w8581 := rdA_fr (k := 10) (j := 0) gq2 c0 t_p0 (κ' := 60) rfl rfl rfl
                        have a8583 := zi_and p2 8 (by decide)
                        exact sw_some ⟨cq28, fq28, (by (try simp only [zp, zo, zq] at u5318 xq2 h5319 xq12 h5332 xq14 a5352 u5353 h5354 h5355 h8082 h8083 a8338 h8339 w8340 w8341 r8342 r8343 r8344 h8345 h8365 h8485 h8530 w8555 w8556 w8557 w8559 w8560 w8562 w8561 w8563 w8565 w8566 w8567 w8569 w8568 w8571 w8572 w8573 w8574 w8575 w8577 w8576 w8578 w8582 w8581 a8583 ⊢) <;> (try simp only [zz, Int32.reduceToInt, ne_eq] at u5318 xq2 h5319 xq12 h5332 xq14 a5352 u5353 h5354 h5355 h8082 h8083 a8338 h8339 w8340 w8341 r8342 r8343 r8344 h8345 h8365 h8485 h8530 w8555 w8556 w8557 w8559 w8560 w8562 w8561 w8563 w8565 w8566 w8567 w8569 w8568 w8571 w8572 w8573 w8574 w8575 w8577 w8576 w8578 w8582 w8581 a8583 ⊢) <;> (try simp (disch := omega) only [zb] at u5318 xq2 h5319 xq12 h5332 xq14 a5352 u5353 h5354 h5355 h8082 h8083 a8338 h8339 w8340 w8341 r8342 r8343 r8344 h8345 h8365 h8485 h8530 w8555 w8556 w8557 w8559 w8560 w8562 w8561 w8563 w8565 w8566 w8567 w8569 w8568 w8571 w8572 w8573 w8574 w8575 w8577 w8576 w8578 w8582 w8581 a8583 ⊢) <;> first | omega | ((try simp (disch := omega) only [zb] at u5318 xq2 h5319 xq12 h5332 xq14 a5352 u5353 h5354 h5355 h8082 h8083 a8338 h8339 w8340 w8341 r8342 r8343 r8344 h8345 h8365 h8485 h8530 w8555 w8556 w8557 w8559 w8560 w8562 w8561 w8563 w8565 w8566 w8567 w8569 w8568 w8571 w8572 w8573 w8574 w8575 w8577 w8576 w8578 w8582 w8581 a8583 ⊢) <;> omega))⟩
              · refine sw_ite (fun h8584 => ?_) (fun h8584 => ?_)
                · unfold fX9_pair_222
                  unfold fX9_pair_228
                  have w8585 : mm_I s11 q17 ((0 : Int32).toNatClampNeg) = mm_I q2.2 q17 ((0 : Int32).toNatClampNeg) := by rw [← es11]; exact rd_k tq17 tq5 (by decide)
                  have w8586 := (gq2.2.2 _ _ tq17 ((0 : Int32).toNatClampNeg) rfl).1
                  have r8587 := ci_rg c0 tq17 ((0 : Int32).toNatClampNeg) (lo := (-1)) (hi := 3) rfl
                  have r8588 := ci_rg cq2 tq17 ((0 : Int32).toNatClampNeg) (lo := (-1)) (hi := 3) rfl
                  have r8589 := ci_rg cs11 tq17 ((0 : Int32).toNatClampNeg) (lo := (-1)) (hi := 3) rfl
                  refine sw_ite (fun h8590 => ?_) (fun h8590 => ?_)
                  · have w8591 : mm_I s11 p0 0 = mm_I q2.2 p0 0 := by rw [← es11]; exact rd_k t_p0 tq5 (by decide)
                    have w8594 : rdA s11 p0 9 1 = mm_I s11 q17 ((1 : Int32)).toNatClampNeg := rdA_eq eq17
                    have w8593 : rdA s11 p0 9 1 = rdA q2.2 p0 9 1 := by rw [← es11]; exact rdA_k cq2 t_p0 (κ' := 59) rfl tq5 (by decide)
                    have w8595 := rdA_fr (k := 9) (j := 1) gq2 c0 t_p0 (κ' := 59) rfl rfl rfl
                    have w8597 : rdA s11 p0 10 1 = rdA q2.2 p0 10 1 := by rw [← es11]; exact rdA_j (by decide)
                    have w8599 : rdA q2.2 p0 10 1 = mm_I q2.2 q5 ((1 : Int32)).toNatClampNeg := rdA_eq eq5
                    have w8598 := rdA_fr (k := 10) (j := 1) gq2 c0 t_p0 (κ' := 60) rfl rfl rfl
                    have w8601 : rdA s11 p0 10 0 = -1 := by rw [← es11]; exact rdA_self eq5
                    have w8603 : rdA s11 p0 9 0 = mm_I s11 q17 ((0 : Int32)).toNatClampNeg := rdA_eq eq17
                    have w8602 : rdA s11 p0 9 0 = rdA q2.2 p0 9 0 := by rw [← es11]; exact rdA_k cq2 t_p0 (κ' := 59) rfl tq5 (by decide)
                    have w8604 := rdA_fr (k := 9) (j := 0) gq2 c0 t_p0 (κ' := 59) rfl rfl rfl
                    have w8608 : rdA q2.2 p0 10 0 = mm_I q2.2 q5 ((0 : Int32)).toNatClampNeg := rdA_eq eq5
                    have w8607 := rdA_fr (k := 10) (j := 0) gq2 c0 t_p0 (κ' := 60) rfl rfl rfl
                    have a8609 := zi_and p2 8 (by decide)
                    exact sw_some ⟨cs11, fs11, (by (try simp only [zp, zo, zq] at u5318 xq2 h5319 xq12 h5332 xq14 a5352 u5353 h5354 h5355 h8082 h8083 a8338 h8339 h8584 w8585 w8586 r8587 r8588 r8589 h8590 w8591 w8594 w8593 w8595 w8597 w8599 w8598 w8601 w8603 w8602 w8604 w8608 w8607 a8609 ⊢) <;> (try simp only [zz, Int32.reduceToInt, ne_eq] at u5318 xq2 h5319 xq12 h5332 xq14 a5352 u5353 h5354 h5355 h8082 h8083 a8338 h8339 h8584 w8585 w8586 r8587 r8588 r8589 h8590 w8591 w8594 w8593 w8595 w8597 w8599 w8598 w8601 w8603 w8602 w8604 w8608 w8607 a8609 ⊢) <;> (try simp (disch := omega) only [zb] at u5318 xq2 h5319 xq12 h5332 xq14 a5352 u5353 h5354 h5355 h8082 h8083 a8338 h8339 h8584 w8585 w8586 r8587 r8588 r8589 h8590 w8591 w8594 w8593 w8595 w8597 w8599 w8598 w8601 w8603 w8602 w8604 w8608 w8607 a8609 ⊢) <;> first | omega | ((try simp (disch := omega) only [zb] at u5318 xq2 h5319 xq12 h5332 xq14 a5352 u5353 h5354 h5355 h8082 h8083 a8338 h8339 h8584 w8585 w8586 r8587 r8588 r8589 h8590 w8591 w8594 w8593 w8595 w8597 w8599 w8598 w8601 w8603 w8602 w8604 w8608 w8607 a8609 ⊢) <;> omega))⟩
                  · refine sw_ite (fun h8610 => ?_) (fun h8610 => ?_)
                    · refine sw_ite (fun h8611 => ?_) (fun h8611 => ?_)
                      · have w8612 : mm_I s11 p0 0 = mm_I q2.2 p0 0 := by rw [← es11]; exact rd_k t_p0 tq5 (by decide)
                        have w8615 : rdA s11 p0 9 1 = mm_I s11 q17 ((1 : Int32)).toNatClampNeg := rdA_eq eq17
                        have w8614 : rdA s11 p0 9 1 = rdA q2.2 p0 9 1 := by rw [← es11]; exact rdA_k cq2 t_p0 (κ' := 59) rfl tq5 (by decide)
                        have w8616 := rdA_fr (k := 9) (j := 1) gq2 c0 t_p0 (κ' := 59) rfl rfl rfl
                        have w8618 : rdA s11 p0 10 1 = rdA q2.2 p0 10 1 := by rw [← es11]; exact rdA_j (by decide)
                        have w8620 : rdA q2.2 p0 10 1 = mm_I q2.2 q5 ((1 : Int32)).toNatClampNeg := rdA_eq eq5
                        have w8619 := rdA_fr (k := 10) (j := 1) gq2 c0 t_p0 (κ' := 60) rfl rfl rfl
                        have w8622 : rdA s11 p0 10 0 = -1 := by rw [← es11]; exact rdA_self eq5
                        have w8624 : rdA s11 p0 9 0 = mm_I s11 q17 ((0 : Int32)).toNatClampNeg := rdA_eq eq17
                        have w8623 : rdA s11 p0 9 0 = rdA q2.2 p0 9 0 := by rw [← es11]; exact rdA_k cq2 t_p0 (κ' := 59) rfl tq5 (by decide)
                        have w8625 := rdA_fr (k := 9) (j := 0) gq2 c0 t_p0 (κ' := 59) rfl rfl rfl
                        have w8629 : rdA q2.2 p0 10 0 = mm_I q2.2 q5 ((0 : Int32)).toNatClampNeg := rdA_eq eq5
                        have w8628 := rdA_fr (k := 10) (j := 0) gq2 c0 t_p0 (κ' := 60) rfl rfl rfl
                        have a8630 := zi_and p2 8 (by decide)
                        exact sw_some ⟨cs11, fs11, (by (try simp only [zp, zo, zq] at u5318 xq2 h5319 xq12 h5332 xq14 a5352 u5353 h5354 h5355 h8082 h8083 a8338 h8339 h8584 w8585 w8586 r8587 r8588 r8589 h8590 h8610 h8611 w8612 w8615 w8614 w8616 w8618 w8620 w8619 w8622 w8624 w8623 w8625 w8629 w8628 a8630 ⊢) <;> (try simp only [zz, Int32.reduceToInt, ne_eq] at u5318 xq2 h5319 xq12 h5332 xq14 a5352 u5353 h5354 h5355 h8082 h8083 a8338 h8339 h8584 w8585 w8586 r8587 r8588 r8589 h8590 h8610 h8611 w8612 w8615 w8614 w8616 w8618 w8620 w8619 w8622 w8624 w8623 w8625 w8629 w8628 a8630 ⊢) <;> (try simp (disch := omega) only [zb] at u5318 xq2 h5319 xq12 h5332 xq14 a5352 u5353 h5354 h5355 h8082 h8083 a8338 h8339 h8584 w8585 w8586 r8587 r8588 r8589 h8590 h8610 h8611 w8612 w8615 w8614 w8616 w8618 w8620 w8619 w8622 w8624 w8623 w8625 w8629 w8628 a8630 ⊢) <;> first | omega | ((try simp (disch := omega) only [zb] at u5318 xq2 h5319 xq12 h5332 xq14 a5352 u5353 h5354 h5355 h8082 h8083 a8338 h8339 h8584 w8585 w8586 r8587 r8588 r8589 h8590 h8610 h8611 w8612 w8615 w8614 w8616 w8618 w8620 w8619 w8622 w8624 w8623 w8625 w8629 w8628 a8630 ⊢) <;> omega))⟩
                      · unfold fX9_pair_250
                        refine sw_ite (fun h8631 => ?_) (fun h8631 => ?_)
                        · unfold fX9_pair_264
                          refine sw_ite (fun h8632 => ?_) (fun h8632 => ?_)
                          · have w8633 : mm_I s11 p0 0 = mm_I q2.2 p0 0 := by rw [← es11]; exact rd_k t_p0 tq5 (by decide)
                            have w8636 : rdA s11 p0 9 1 = mm_I s11 q17 ((1 : Int32)).toNatClampNeg := rdA_eq eq17
                            have w8635 : rdA s11 p0 9 1 = rdA q2.2 p0 9 1 := by rw [← es11]; exact rdA_k cq2 t_p0 (κ' := 59) rfl tq5 (by decide)
                            have w8637 := rdA_fr (k := 9) (j := 1) gq2 c0 t_p0 (κ' := 59) rfl rfl rfl
                            have w8639 : rdA s11 p0 10 1 = rdA q2.2 p0 10 1 := by rw [← es11]; exact rdA_j (by decide)
                            have w8641 : rdA q2.2 p0 10 1 = mm_I q2.2 q5 ((1 : Int32)).toNatClampNeg := rdA_eq eq5
                            have w8640 := rdA_fr (k := 10) (j := 1) gq2 c0 t_p0 (κ' := 60) rfl rfl rfl
                            have w8643 : rdA s11 p0 10 0 = -1 := by rw [← es11]; exact rdA_self eq5
                            have w8645 : rdA s11 p0 9 0 = mm_I s11 q17 ((0 : Int32)).toNatClampNeg := rdA_eq eq17
                            have w8644 : rdA s11 p0 9 0 = rdA q2.2 p0 9 0 := by rw [← es11]; exact rdA_k cq2 t_p0 (κ' := 59) rfl tq5 (by decide)
                            have w8646 := rdA_fr (k := 9) (j := 0) gq2 c0 t_p0 (κ' := 59) rfl rfl rfl
                            have w8650 : rdA q2.2 p0 10 0 = mm_I q2.2 q5 ((0 : Int32)).toNatClampNeg := rdA_eq eq5
                            have w8649 := rdA_fr (k := 10) (j := 0) gq2 c0 t_p0 (κ' := 60) rfl rfl rfl
                            have a8651 := zi_and p2 8 (by decide)
                            exact sw_some ⟨cs11, fs11, (by (try simp only [zp, zo, zq] at u5318 xq2 h5319 xq12 h5332 xq14 a5352 u5353 h5354 h5355 h8082 h8083 a8338 h8339 h8584 w8585 w8586 r8587 r8588 r8589 h8590 h8610 h8611 h8631 h8632 w8633 w8636 w8635 w8637 w8639 w8641 w8640 w8643 w8645 w8644 w8646 w8650 w8649 a8651 ⊢) <;> (try simp only [zz, Int32.reduceToInt, ne_eq] at u5318 xq2 h5319 xq12 h5332 xq14 a5352 u5353 h5354 h5355 h8082 h8083 a8338 h8339 h8584 w8585 w8586 r8587 r8588 r8589 h8590 h8610 h8611 h8631 h8632 w8633 w8636 w8635 w8637 w8639 w8641 w8640 w8643 w8645 w8644 w8646 w8650 w8649 a8651 ⊢) <;> (try simp (disch := omega) only [zb] at u5318 xq2 h5319 xq12 h5332 xq14 a5352 u5353 h5354 h5355 h8082 h8083 a8338 h8339 h8584 w8585 w8586 r8587 r8588 r8589 h8590 h8610 h8611 h8631 h8632 w8633 w8636 w8635 w8637 w8639 w8641 w8640 w8643 w8645 w8644 w8646 w8650 w8649 a8651 ⊢) <;> first | omega | ((try simp (disch := omega) only [zb] at u5318 xq2 h5319 xq12 h5332 xq14 a5352 u5353 h5354 h5355 h8082 h8083 a8338 h8339 h8584 w8585 w8586 r8587 r8588 r8589 h8590 h8610 h8611 h8631 h8632 w8633 w8636 w8635 w8637 w8639 w8641 w8640 w8643 w8645 w8644 w8646 w8650 w8649 a8651 ⊢) <;> omega))⟩
                          · refine sw_sh (ci_sh cs11 t_p0 rfl) ?_
                            refine sw_on (sX9_put cs11 t_p0 (by (try simp only [zp, zo, zq] at u5318 xq2 h5319 xq12 h5332 xq14 a5352 u5353 h5354 h5355 h8082 h8083 a8338 h8339 h8584 w8585 w8586 r8587 r8588 r8589 h8590 h8610 h8611 h8631 h8632 ⊢) <;> (try simp only [zz, Int32.reduceToInt, ne_eq] at u5318 xq2 h5319 xq12 h5332 xq14 a5352 u5353 h5354 h5355 h8082 h8083 a8338 h8339 h8584 w8585 w8586 r8587 r8588 r8589 h8590 h8610 h8611 h8631 h8632 ⊢) <;> (try simp (disch := omega) only [zb] at u5318 xq2 h5319 xq12 h5332 xq14 a5352 u5353 h5354 h5355 h8082 h8083 a8338 h8339 h8584 w8585 w8586 r8587 r8588 r8589 h8590 h8610 h8611 h8631 h8632 ⊢) <;> first | omega | ((try simp (disch := omega) only [zb] at u5318 xq2 h5319 xq12 h5332 xq14 a5352 u5353 h5354 h5355 h8082 h8083 a8338 h8339 h8584 w8585 w8586 r8587 r8588 r8589 h8590 h8610 h8611 h8631 h8632 ⊢) <;> omega)) ) ?_
                            intro q28 hqq28
                            obtain ⟨cq28, gq28, xq28⟩ := hqq28
                            have fq28 := fr_trans fs11 gq28 rfl
                            have w8652 := (gq28.2.2 _ _ t_p0 0 rfl).1
                            have w8653 : mm_I s11 p0 0 = mm_I q2.2 p0 0 := by rw [← es11]; exact rd_k t_p0 tq5 (by decide)
                            have w8655 := rdA_fr (k := 9) (j := 1) gq28 cs11 t_p0 (κ' := 59) rfl rfl rfl
                            have w8657 : rdA s11 p0 9 1 = mm_I s11 q17 ((1 : Int32)).toNatClampNeg := rdA_eq eq17
                            have w8656 : rdA s11 p0 9 1 = rdA q2.2 p0 9 1 := by rw [← es11]; exact rdA_k cq2 t_p0 (κ' := 59) rfl tq5 (by decide)
                            have w8658 := rdA_fr (k := 9) (j := 1) gq2 c0 t_p0 (κ' := 59) rfl rfl rfl
                            have w8660 := rdA_fr (k := 10) (j := 1) gq28 cs11 t_p0 (κ' := 60) rfl rfl rfl
                            have w8661 : rdA s11 p0 10 1 = rdA q2.2 p0 10 1 := by rw [← es11]; exact rdA_j (by decide)
                            have w8663 : rdA q2.2 p0 10 1 = mm_I q2.2 q5 ((1 : Int32)).toNatClampNeg := rdA_eq eq5
                            have w8662 := rdA_fr (k := 10) (j := 1) gq2 c0 t_p0 (κ' := 60) rfl rfl rfl
                            have w8665 := rdA_fr (k := 10) (j := 0) gq28 cs11 t_p0 (κ' := 60) rfl rfl rfl
                            have w8666 : rdA s11 p0 10 0 = -1 := by rw [← es11]; exact rdA_self eq5
                            have w8667 := rdA_fr (k := 9) (j := 0) gq28 cs11 t_p0 (κ' := 59) rfl rfl rfl
                            have w8669 : rdA s11 p0 9 0 = mm_I s11 q17 ((0 : Int32)).toNatClampNeg := rdA_eq eq17
                            have w8668 : rdA s11 p0 9 0 = rdA q2.2 p0 9 0 := by rw [← es11]; exact rdA_k cq2 t_p0 (κ' := 59) rfl tq5 (by decide)
                            have w8670 := rdA_fr (k := 9) (j := 0) gq2 c0 t_p0 (κ' := 59) rfl rfl rfl
                            have w8674 : rdA q2.2 p0 10 0 = mm_I q2.2 q5 ((0 : Int32)).toNatClampNeg := rdA_eq eq5
                            have w8673 := rdA_fr (k := 10) (j := 0) gq2 c0 t_p0 (κ' := 60) rfl rfl rfl
                            have a8675 := zi_and p2 8 (by decide)
                            exact sw_some ⟨cq28, fq28, (by (try simp only [zp, zo, zq] at u5318 xq2 h5319 xq12 h5332 xq14 a5352 u5353 h5354 h5355 h8082 h8083 a8338 h8339 h8584 w8585 w8586 r8587 r8588 r8589 h8590 h8610 h8611 h8631 h8632 w8652 w8653 w8655 w8657 w8656 w8658 w8660 w8661 w8663 w8662 w8665 w8666 w8667 w8669 w8668 w8670 w8674 w8673 a8675 ⊢) <;> (try simp only [zz, Int32.reduceToInt, ne_eq] at u5318 xq2 h5319 xq12 h5332 xq14 a5352 u5353 h5354 h5355 h8082 h8083 a8338 h8339 h8584 w8585 w8586 r8587 r8588 r8589 h8590 h8610 h8611 h8631 h8632 w8652 w8653 w8655 w8657 w8656 w8658 w8660 w8661 w8663 w8662 w8665 w8666 w8667 w8669 w8668 w8670 w8674 w8673 a8675 ⊢) <;> (try simp (disch := omega) only [zb] at u5318 xq2 h5319 xq12 h5332 xq14 a5352 u5353 h5354 h5355 h8082 h8083 a8338 h8339 h8584 w8585 w8586 r8587 r8588 r8589 h8590 h8610 h8611 h8631 h8632 w8652 w8653 w8655 w8657 w8656 w8658 w8660 w8661 w8663 w8662 w8665 w8666 w8667 w8669 w8668 w8670 w8674 w8673 a8675 ⊢) <;> first | omega | ((try simp (disch := omega) only [zb] at u5318 xq2 h5319 xq12 h5332 xq14 a5352 u5353 h5354 h5355 h8082 h8083 a8338 h8339 h8584 w8585 w8586 r8587 r8588 r8589 h8590 h8610 h8611 h8631 h8632 w8652 w8653 w8655 w8657 w8656 w8658 w8660 w8661 w8663 w8662 w8665 w8666 w8667 w8669 w8668 w8670 w8674 w8673 a8675 ⊢) <;> omega))⟩
                        · refine sw_sh (ci_sh cs11 t_p0 rfl) ?_
                          refine sw_on (sX9_put cs11 t_p0 (by (try simp only [zp, zo, zq] at u5318 xq2 h5319 xq12 h5332 xq14 a5352 u5353 h5354 h5355 h8082 h8083 a8338 h8339 h8584 w8585 w8586 r8587 r8588 r8589 h8590 h8610 h8611 h8631 ⊢) <;> (try simp only [zz, Int32.reduceToInt, ne_eq] at u5318 xq2 h5319 xq12 h5332 xq14 a5352 u5353 h5354 h5355 h8082 h8083 a8338 h8339 h8584 w8585 w8586 r8587 r8588 r8589 h8590 h8610 h8611 h8631 ⊢) <;> (try simp (disch := omega) only [zb] at u5318 xq2 h5319 xq12 h5332 xq14 a5352 u5353 h5354 h5355 h8082 h8083 a8338 h8339 h8584 w8585 w8586 r8587 r8588 r8589 h8590 h8610 h8611 h8631 ⊢) <;> first | omega | ((try simp (disch := omega) only [zb] at u5318 xq2 h5319 xq12 h5332 xq14 a5352 u5353 h5354 h5355 h8082 h8083 a8338 h8339 h8584 w8585 w8586 r8587 r8588 r8589 h8590 h8610 h8611 h8631 ⊢) <;> omega)) ) ?_
                          intro q30 hqq30
                          obtain ⟨cq30, gq30, xq30⟩ := hqq30
                          have fq30 := fr_trans fs11 gq30 rfl
                          unfold fX9_pair_264
                          refine sw_ite (fun h8676 => ?_) (fun h8676 => ?_)
                          · have w8677 := (gq30.2.2 _ _ t_p0 0 rfl).1
                            have w8678 : mm_I s11 p0 0 = mm_I q2.2 p0 0 := by rw [← es11]; exact rd_k t_p0 tq5 (by decide)
                            have w8680 := rdA_fr (k := 9) (j := 1) gq30 cs11 t_p0 (κ' := 59) rfl rfl rfl
                            have w8682 : rdA s11 p0 9 1 = mm_I s11 q17 ((1 : Int32)).toNatClampNeg := rdA_eq eq17
                            have w8681 : rdA s11 p0 9 1 = rdA q2.2 p0 9 1 := by rw [← es11]; exact rdA_k cq2 t_p0 (κ' := 59) rfl tq5 (by decide)
                            have w8683 := rdA_fr (k := 9) (j := 1) gq2 c0 t_p0 (κ' := 59) rfl rfl rfl
                            have w8685 := rdA_fr (k := 10) (j := 1) gq30 cs11 t_p0 (κ' := 60) rfl rfl rfl
                            have w8686 : rdA s11 p0 10 1 = rdA q2.2 p0 10 1 := by rw [← es11]; exact rdA_j (by decide)
                            have w8688 : rdA q2.2 p0 10 1 = mm_I q2.2 q5 ((1 : Int32)).toNatClampNeg := rdA_eq eq5
                            have w8687 := rdA_fr (k := 10) (j := 1) gq2 c0 t_p0 (κ' := 60) rfl rfl rfl
                            have w8690 := rdA_fr (k := 10) (j := 0) gq30 cs11 t_p0 (κ' := 60) rfl rfl rfl
                            have w8691 : rdA s11 p0 10 0 = -1 := by rw [← es11]; exact rdA_self eq5
                            have w8692 := rdA_fr (k := 9) (j := 0) gq30 cs11 t_p0 (κ' := 59) rfl rfl rfl
                            have w8694 : rdA s11 p0 9 0 = mm_I s11 q17 ((0 : Int32)).toNatClampNeg := rdA_eq eq17
                            have w8693 : rdA s11 p0 9 0 = rdA q2.2 p0 9 0 := by rw [← es11]; exact rdA_k cq2 t_p0 (κ' := 59) rfl tq5 (by decide)
                            have w8695 := rdA_fr (k := 9) (j := 0) gq2 c0 t_p0 (κ' := 59) rfl rfl rfl
                            have w8699 : rdA q2.2 p0 10 0 = mm_I q2.2 q5 ((0 : Int32)).toNatClampNeg := rdA_eq eq5
                            have w8698 := rdA_fr (k := 10) (j := 0) gq2 c0 t_p0 (κ' := 60) rfl rfl rfl
                            have a8700 := zi_and p2 8 (by decide)
                            exact sw_some ⟨cq30, fq30, (by (try simp only [zp, zo, zq] at u5318 xq2 h5319 xq12 h5332 xq14 a5352 u5353 h5354 h5355 h8082 h8083 a8338 h8339 h8584 w8585 w8586 r8587 r8588 r8589 h8590 h8610 h8611 h8631 h8676 w8677 w8678 w8680 w8682 w8681 w8683 w8685 w8686 w8688 w8687 w8690 w8691 w8692 w8694 w8693 w8695 w8699 w8698 a8700 ⊢) <;> (try simp only [zz, Int32.reduceToInt, ne_eq] at u5318 xq2 h5319 xq12 h5332 xq14 a5352 u5353 h5354 h5355 h8082 h8083 a8338 h8339 h8584 w8585 w8586 r8587 r8588 r8589 h8590 h8610 h8611 h8631 h8676 w8677 w8678 w8680 w8682 w8681 w8683 w8685 w8686 w8688 w8687 w8690 w8691 w8692 w8694 w8693 w8695 w8699 w8698 a8700 ⊢) <;> (try simp (disch := omega) only [zb] at u5318 xq2 h5319 xq12 h5332 xq14 a5352 u5353 h5354 h5355 h8082 h8083 a8338 h8339 h8584 w8585 w8586 r8587 r8588 r8589 h8590 h8610 h8611 h8631 h8676 w8677 w8678 w8680 w8682 w8681 w8683 w8685 w8686 w8688 w8687 w8690 w8691 w8692 w8694 w8693 w8695 w8699 w8698 a8700 ⊢) <;> first | omega | ((try simp (disch := omega) only [zb] at u5318 xq2 h5319 xq12 h5332 xq14 a5352 u5353 h5354 h5355 h8082 h8083 a8338 h8339 h8584 w8585 w8586 r8587 r8588 r8589 h8590 h8610 h8611 h8631 h8676 w8677 w8678 w8680 w8682 w8681 w8683 w8685 w8686 w8688 w8687 w8690 w8691 w8692 w8694 w8693 w8695 w8699 w8698 a8700 ⊢) <;> omega))⟩
                          · refine sw_sh (ci_sh cq30 t_p0 rfl) ?_
                            refine sw_on (sX9_put cq30 t_p0 (by (try simp only [zp, zo, zq] at u5318 xq2 h5319 xq12 h5332 xq14 a5352 u5353 h5354 h5355 h8082 h8083 a8338 h8339 h8584 w8585 w8586 r8587 r8588 r8589 h8590 h8610 h8611 h8631 h8676 ⊢) <;> (try simp only [zz, Int32.reduceToInt, ne_eq] at u5318 xq2 h5319 xq12 h5332 xq14 a5352 u5353 h5354 h5355 h8082 h8083 a8338 h8339 h8584 w8585 w8586 r8587 r8588 r8589 h8590 h8610 h8611 h8631 h8676 ⊢) <;> (try simp (disch := omega) only [zb] at u5318 xq2 h5319 xq12 h5332 xq14 a5352 u5353 h5354 h5355 h8082 h8083 a8338 h8339 h8584 w8585 w8586 r8587 r8588 r8589 h8590 h8610 h8611 h8631 h8676 ⊢) <;> first | omega | ((try simp (disch := omega) only [zb] at u5318 xq2 h5319 xq12 h5332 xq14 a5352 u5353 h5354 h5355 h8082 h8083 a8338 h8339 h8584 w8585 w8586 r8587 r8588 r8589 h8590 h8610 h8611 h8631 h8676 ⊢) <;> omega)) ) ?_
                            intro q28 hqq28
                            obtain ⟨cq28, gq28, xq28⟩ := hqq28
                            have fq28 := fr_trans fq30 gq28 rfl
                            have w8701 := (gq28.2.2 _ _ t_p0 0 rfl).1
                            have w8702 := (gq30.2.2 _ _ t_p0 0 rfl).1
                            have w8703 : mm_I s11 p0 0 = mm_I q2.2 p0 0 := by rw [← es11]; exact rd_k t_p0 tq5 (by decide)
                            have w8705 := rdA_fr (k := 9) (j := 1) gq28 cq30 t_p0 (κ' := 59) rfl rfl rfl
                            have w8706 := rdA_fr (k := 9) (j := 1) gq30 cs11 t_p0 (κ' := 59) rfl rfl rfl
                            have w8708 : rdA s11 p0 9 1 = mm_I s11 q17 ((1 : Int32)).toNatClampNeg := rdA_eq eq17
                            have w8707 : rdA s11 p0 9 1 = rdA q2.2 p0 9 1 := by rw [← es11]; exact rdA_k cq2 t_p0 (κ' := 59) rfl tq5 (by decide)
                            have w8709 := rdA_fr (k := 9) (j := 1) gq2 c0 t_p0 (κ' := 59) rfl rfl rfl
                            have w8711 := rdA_fr (k := 10) (j := 1) gq28 cq30 t_p0 (κ' := 60) rfl rfl rfl
                            have w8712 := rdA_fr (k := 10) (j := 1) gq30 cs11 t_p0 (κ' := 60) rfl rfl rfl
                            have w8713 : rdA s11 p0 10 1 = rdA q2.2 p0 10 1 := by rw [← es11]; exact rdA_j (by decide)
                            have w8715 : rdA q2.2 p0 10 1 = mm_I q2.2 q5 ((1 : Int32)).toNatClampNeg := rdA_eq eq5
                            have w8714 := rdA_fr (k := 10) (j := 1) gq2 c0 t_p0 (κ' := 60) rfl rfl rfl
                            have w8717 := rdA_fr (k := 10) (j := 0) gq28 cq30 t_p0 (κ' := 60) rfl rfl rfl
                            have w8718 := rdA_fr (k := 10) (j := 0) gq30 cs11 t_p0 (κ' := 60) rfl rfl rfl
                            have w8719 : rdA s11 p0 10 0 = -1 := by rw [← es11]; exact rdA_self eq5
                            have w8720 := rdA_fr (k := 9) (j := 0) gq28 cq30 t_p0 (κ' := 59) rfl rfl rfl
                            have w8721 := rdA_fr (k := 9) (j := 0) gq30 cs11 t_p0 (κ' := 59) rfl rfl rfl
                            have w8723 : rdA s11 p0 9 0 = mm_I s11 q17 ((0 : Int32)).toNatClampNeg := rdA_eq eq17
                            have w8722 : rdA s11 p0 9 0 = rdA q2.2 p0 9 0 := by rw [← es11]; exact rdA_k cq2 t_p0 (κ' := 59) rfl tq5 (by decide)
                            have w8724 := rdA_fr (k := 9) (j := 0) gq2 c0 t_p0 (κ' := 59) rfl rfl rfl
                            have w8728 : rdA q2.2 p0 10 0 = mm_I q2.2 q5 ((0 : Int32)).toNatClampNeg := rdA_eq eq5
                            have w8727 := rdA_fr (k := 10) (j := 0) gq2 c0 t_p0 (κ' := 60) rfl rfl rfl
                            have a8729 := zi_and p2 8 (by decide)
                            exact sw_some ⟨cq28, fq28, (by (try simp only [zp, zo, zq] at u5318 xq2 h5319 xq12 h5332 xq14 a5352 u5353 h5354 h5355 h8082 h8083 a8338 h8339 h8584 w8585 w8586 r8587 r8588 r8589 h8590 h8610 h8611 h8631 h8676 w8701 w8702 w8703 w8705 w8706 w8708 w8707 w8709 w8711 w8712 w8713 w8715 w8714 w8717 w8718 w8719 w8720 w8721 w8723 w8722 w8724 w8728 w8727 a8729 ⊢) <;> (try simp only [zz, Int32.reduceToInt, ne_eq] at u5318 xq2 h5319 xq12 h5332 xq14 a5352 u5353 h5354 h5355 h8082 h8083 a8338 h8339 h8584 w8585 w8586 r8587 r8588 r8589 h8590 h8610 h8611 h8631 h8676 w8701 w8702 w8703 w8705 w8706 w8708 w8707 w8709 w8711 w8712 w8713 w8715 w8714 w8717 w8718 w8719 w8720 w8721 w8723 w8722 w8724 w8728 w8727 a8729 ⊢) <;> (try simp (disch := omega) only [zb] at u5318 xq2 h5319 xq12 h5332 xq14 a5352 u5353 h5354 h5355 h8082 h8083 a8338 h8339 h8584 w8585 w8586 r8587 r8588 r8589 h8590 h8610 h8611 h8631 h8676 w8701 w8702 w8703 w8705 w8706 w8708 w8707 w8709 w8711 w8712 w8713 w8715 w8714 w8717 w8718 w8719 w8720 w8721 w8723 w8722 w8724 w8728 w8727 a8729 ⊢) <;> first | omega | ((try simp (disch := omega) only [zb] at u5318 xq2 h5319 xq12 h5332 xq14 a5352 u5353 h5354 h5355 h8082 h8083 a8338 h8339 h8584 w8585 w8586 r8587 r8588 r8589 h8590 h8610 h8611 h8631 h8676 w8701 w8702 w8703 w8705 w8706 w8708 w8707 w8709 w8711 w8712 w8713 w8715 w8714 w8717 w8718 w8719 w8720 w8721 w8723 w8722 w8724 w8728 w8727 a8729 ⊢) <;> omega))⟩
                    · unfold fX9_pair_250
                      refine sw_ite (fun h8730 => ?_) (fun h8730 => ?_)
                      · unfold fX9_pair_264
                        refine sw_ite (fun h8731 => ?_) (fun h8731 => ?_)
                        · have w8732 : mm_I s11 p0 0 = mm_I q2.2 p0 0 := by rw [← es11]; exact rd_k t_p0 tq5 (by decide)
                          have w8735 : rdA s11 p0 9 1 = mm_I s11 q17 ((1 : Int32)).toNatClampNeg := rdA_eq eq17
                          have w8734 : rdA s11 p0 9 1 = rdA q2.2 p0 9 1 := by rw [← es11]; exact rdA_k cq2 t_p0 (κ' := 59) rfl tq5 (by decide)
                          have w8736 := rdA_fr (k := 9) (j := 1) gq2 c0 t_p0 (κ' := 59) rfl rfl rfl
                          have w8738 : rdA s11 p0 10 1 = rdA q2.2 p0 10 1 := by rw [← es11]; exact rdA_j (by decide)
                          have w8740 : rdA q2.2 p0 10 1 = mm_I q2.2 q5 ((1 : Int32)).toNatClampNeg := rdA_eq eq5
                          have w8739 := rdA_fr (k := 10) (j := 1) gq2 c0 t_p0 (κ' := 60) rfl rfl rfl
                          have w8742 : rdA s11 p0 10 0 = -1 := by rw [← es11]; exact rdA_self eq5
                          have w8744 : rdA s11 p0 9 0 = mm_I s11 q17 ((0 : Int32)).toNatClampNeg := rdA_eq eq17
                          have w8743 : rdA s11 p0 9 0 = rdA q2.2 p0 9 0 := by rw [← es11]; exact rdA_k cq2 t_p0 (κ' := 59) rfl tq5 (by decide)
                          have w8745 := rdA_fr (k := 9) (j := 0) gq2 c0 t_p0 (κ' := 59) rfl rfl rfl
                          have w8749 : rdA q2.2 p0 10 0 = mm_I q2.2 q5 ((0 : Int32)).toNatClampNeg := rdA_eq eq5
                          have w8748 := rdA_fr (k := 10) (j := 0) gq2 c0 t_p0 (κ' := 60) rfl rfl rfl
                          have a8750 := zi_and p2 8 (by decide)
                          exact sw_some ⟨cs11, fs11, (by (try simp only [zp, zo, zq] at u5318 xq2 h5319 xq12 h5332 xq14 a5352 u5353 h5354 h5355 h8082 h8083 a8338 h8339 h8584 w8585 w8586 r8587 r8588 r8589 h8590 h8610 h8730 h8731 w8732 w8735 w8734 w8736 w8738 w8740 w8739 w8742 w8744 w8743 w8745 w8749 w8748 a8750 ⊢) <;> (try simp only [zz, Int32.reduceToInt, ne_eq] at u5318 xq2 h5319 xq12 h5332 xq14 a5352 u5353 h5354 h5355 h8082 h8083 a8338 h8339 h8584 w8585 w8586 r8587 r8588 r8589 h8590 h8610 h8730 h8731 w8732 w8735 w8734 w8736 w8738 w8740 w8739 w8742 w8744 w8743 w8745 w8749 w8748 a8750 ⊢) <;> (try simp (disch := omega) only [zb] at u5318 xq2 h5319 xq12 h5332 xq14 a5352 u5353 h5354 h5355 h8082 h8083 a8338 h8339 h8584 w8585 w8586 r8587 r8588 r8589 h8590 h8610 h8730 h8731 w8732 w8735 w8734 w8736 w8738 w8740 w8739 w8742 w8744 w8743 w8745 w8749 w8748 a8750 ⊢) <;> first | omega | ((try simp (disch := omega) only [zb] at u5318 xq2 h5319 xq12 h5332 xq14 a5352 u5353 h5354 h5355 h8082 h8083 a8338 h8339 h8584 w8585 w8586 r8587 r8588 r8589 h8590 h8610 h8730 h8731 w8732 w8735 w8734 w8736 w8738 w8740 w8739 w8742 w8744 w8743 w8745 w8749 w8748 a8750 ⊢) <;> omega))⟩
                        · refine sw_sh (ci_sh cs11 t_p0 rfl) ?_
                          refine sw_on (sX9_put cs11 t_p0 (by (try simp only [zp, zo, zq] at u5318 xq2 h5319 xq12 h5332 xq14 a5352 u5353 h5354 h5355 h8082 h8083 a8338 h8339 h8584 w8585 w8586 r8587 r8588 r8589 h8590 h8610 h8730 h8731 ⊢) <;> (try simp only [zz, Int32.reduceToInt, ne_eq] at u5318 xq2 h5319 xq12 h5332 xq14 a5352 u5353 h5354 h5355 h8082 h8083 a8338 h8339 h8584 w8585 w8586 r8587 r8588 r8589 h8590 h8610 h8730 h8731 ⊢) <;> (try simp (disch := omega) only [zb] at u5318 xq2 h5319 xq12 h5332 xq14 a5352 u5353 h5354 h5355 h8082 h8083 a8338 h8339 h8584 w8585 w8586 r8587 r8588 r8589 h8590 h8610 h8730 h8731 ⊢) <;> first | omega | ((try simp (disch := omega) only [zb] at u5318 xq2 h5319 xq12 h5332 xq14 a5352 u5353 h5354 h5355 h8082 h8083 a8338 h8339 h8584 w8585 w8586 r8587 r8588 r8589 h8590 h8610 h8730 h8731 ⊢) <;> omega)) ) ?_
                          intro q28 hqq28
                          obtain ⟨cq28, gq28, xq28⟩ := hqq28
                          have fq28 := fr_trans fs11 gq28 rfl
                          have w8751 := (gq28.2.2 _ _ t_p0 0 rfl).1
                          have w8752 : mm_I s11 p0 0 = mm_I q2.2 p0 0 := by rw [← es11]; exact rd_k t_p0 tq5 (by decide)
                          have w8754 := rdA_fr (k := 9) (j := 1) gq28 cs11 t_p0 (κ' := 59) rfl rfl rfl
                          have w8756 : rdA s11 p0 9 1 = mm_I s11 q17 ((1 : Int32)).toNatClampNeg := rdA_eq eq17
                          have w8755 : rdA s11 p0 9 1 = rdA q2.2 p0 9 1 := by rw [← es11]; exact rdA_k cq2 t_p0 (κ' := 59) rfl tq5 (by decide)
                          have w8757 := rdA_fr (k := 9) (j := 1) gq2 c0 t_p0 (κ' := 59) rfl rfl rfl
                          have w8759 := rdA_fr (k := 10) (j := 1) gq28 cs11 t_p0 (κ' := 60) rfl rfl rfl
                          have w8760 : rdA s11 p0 10 1 = rdA q2.2 p0 10 1 := by rw [← es11]; exact rdA_j (by decide)
                          have w8762 : rdA q2.2 p0 10 1 = mm_I q2.2 q5 ((1 : Int32)).toNatClampNeg := rdA_eq eq5
                          have w8761 := rdA_fr (k := 10) (j := 1) gq2 c0 t_p0 (κ' := 60) rfl rfl rfl
                          have w8764 := rdA_fr (k := 10) (j := 0) gq28 cs11 t_p0 (κ' := 60) rfl rfl rfl
                          have w8765 : rdA s11 p0 10 0 = -1 := by rw [← es11]; exact rdA_self eq5
                          have w8766 := rdA_fr (k := 9) (j := 0) gq28 cs11 t_p0 (κ' := 59) rfl rfl rfl
                          have w8768 : rdA s11 p0 9 0 = mm_I s11 q17 ((0 : Int32)).toNatClampNeg := rdA_eq eq17
                          have w8767 : rdA s11 p0 9 0 = rdA q2.2 p0 9 0 := by rw [← es11]; exact rdA_k cq2 t_p0 (κ' := 59) rfl tq5 (by decide)
                          have w8769 := rdA_fr (k := 9) (j := 0) gq2 c0 t_p0 (κ' := 59) rfl rfl rfl
                          have w8773 : rdA q2.2 p0 10 0 = mm_I q2.2 q5 ((0 : Int32)).toNatClampNeg := rdA_eq eq5
                          have w8772 := rdA_fr (k := 10) (j := 0) gq2 c0 t_p0 (κ' := 60) rfl rfl rfl
                          have a8774 := zi_and p2 8 (by decide)
                          exact sw_some ⟨cq28, fq28, (by (try simp only [zp, zo, zq] at u5318 xq2 h5319 xq12 h5332 xq14 a5352 u5353 h5354 h5355 h8082 h8083 a8338 h8339 h8584 w8585 w8586 r8587 r8588 r8589 h8590 h8610 h8730 h8731 w8751 w8752 w8754 w8756 w8755 w8757 w8759 w8760 w8762 w8761 w8764 w8765 w8766 w8768 w8767 w8769 w8773 w8772 a8774 ⊢) <;> (try simp only [zz, Int32.reduceToInt, ne_eq] at u5318 xq2 h5319 xq12 h5332 xq14 a5352 u5353 h5354 h5355 h8082 h8083 a8338 h8339 h8584 w8585 w8586 r8587 r8588 r8589 h8590 h8610 h8730 h8731 w8751 w8752 w8754 w8756 w8755 w8757 w8759 w8760 w8762 w8761 w8764 w8765 w8766 w8768 w8767 w8769 w8773 w8772 a8774 ⊢) <;> (try simp (disch := omega) only [zb] at u5318 xq2 h5319 xq12 h5332 xq14 a5352 u5353 h5354 h5355 h8082 h8083 a8338 h8339 h8584 w8585 w8586 r8587 r8588 r8589 h8590 h8610 h8730 h8731 w8751 w8752 w8754 w8756 w8755 w8757 w8759 w8760 w8762 w8761 w8764 w8765 w8766 w8768 w8767 w8769 w8773 w8772 a8774 ⊢) <;> first | omega | ((try simp (disch := omega) only [zb] at u5318 xq2 h5319 xq12 h5332 xq14 a5352 u5353 h5354 h5355 h8082 h8083 a8338 h8339 h8584 w8585 w8586 r8587 r8588 r8589 h8590 h8610 h8730 h8731 w8751 w8752 w8754 w8756 w8755 w8757 w8759 w8760 w8762 w8761 w8764 w8765 w8766 w8768 w8767 w8769 w8773 w8772 a8774 ⊢) <;> omega))⟩
                      · refine sw_sh (ci_sh cs11 t_p0 rfl) ?_
                        refine sw_on (sX9_put cs11 t_p0 (by (try simp only [zp, zo, zq] at u5318 xq2 h5319 xq12 h5332 xq14 a5352 u5353 h5354 h5355 h8082 h8083 a8338 h8339 h8584 w8585 w8586 r8587 r8588 r8589 h8590 h8610 h8730 ⊢) <;> (try simp only [zz, Int32.reduceToInt, ne_eq] at u5318 xq2 h5319 xq12 h5332 xq14 a5352 u5353 h5354 h5355 h8082 h8083 a8338 h8339 h8584 w8585 w8586 r8587 r8588 r8589 h8590 h8610 h8730 ⊢) <;> (try simp (disch := omega) only [zb] at u5318 xq2 h5319 xq12 h5332 xq14 a5352 u5353 h5354 h5355 h8082 h8083 a8338 h8339 h8584 w8585 w8586 r8587 r8588 r8589 h8590 h8610 h8730 ⊢) <;> first | omega | ((try simp (disch := omega) only [zb] at u5318 xq2 h5319 xq12 h5332 xq14 a5352 u5353 h5354 h5355 h8082 h8083 a8338 h8339 h8584 w8585 w8586 r8587 r8588 r8589 h8590 h8610 h8730 ⊢) <;> omega)) ) ?_
                        intro q30 hqq30
                        obtain ⟨cq30, gq30, xq30⟩ := hqq30
                        have fq30 := fr_trans fs11 gq30 rfl
                        unfold fX9_pair_264
                        refine sw_ite (fun h8775 => ?_) (fun h8775 => ?_)
                        · have w8776 := (gq30.2.2 _ _ t_p0 0 rfl).1
                          have w8777 : mm_I s11 p0 0 = mm_I q2.2 p0 0 := by rw [← es11]; exact rd_k t_p0 tq5 (by decide)
                          have w8779 := rdA_fr (k := 9) (j := 1) gq30 cs11 t_p0 (κ' := 59) rfl rfl rfl
                          have w8781 : rdA s11 p0 9 1 = mm_I s11 q17 ((1 : Int32)).toNatClampNeg := rdA_eq eq17
                          have w8780 : rdA s11 p0 9 1 = rdA q2.2 p0 9 1 := by rw [← es11]; exact rdA_k cq2 t_p0 (κ' := 59) rfl tq5 (by decide)
                          have w8782 := rdA_fr (k := 9) (j := 1) gq2 c0 t_p0 (κ' := 59) rfl rfl rfl
                          have w8784 := rdA_fr (k := 10) (j := 1) gq30 cs11 t_p0 (κ' := 60) rfl rfl rfl
                          have w8785 : rdA s11 p0 10 1 = rdA q2.2 p0 10 1 := by rw [← es11]; exact rdA_j (by decide)
                          have w8787 : rdA q2.2 p0 10 1 = mm_I q2.2 q5 ((1 : Int32)).toNatClampNeg := rdA_eq eq5
                          have w8786 := rdA_fr (k := 10) (j := 1) gq2 c0 t_p0 (κ' := 60) rfl rfl rfl
                          have w8789 := rdA_fr (k := 10) (j := 0) gq30 cs11 t_p0 (κ' := 60) rfl rfl rfl
                          have w8790 : rdA s11 p0 10 0 = -1 := by rw [← es11]; exact rdA_self eq5
                          have w8791 := rdA_fr (k := 9) (j := 0) gq30 cs11 t_p0 (κ' := 59) rfl rfl rfl
                          have w8793 : rdA s11 p0 9 0 = mm_I s11 q17 ((0 : Int32)).toNatClampNeg := rdA_eq eq17
                          have w8792 : rdA s11 p0 9 0 = rdA q2.2 p0 9 0 := by rw [← es11]; exact rdA_k cq2 t_p0 (κ' := 59) rfl tq5 (by decide)
                          have w8794 := rdA_fr (k := 9) (j := 0) gq2 c0 t_p0 (κ' := 59) rfl rfl rfl
                          have w8798 : rdA q2.2 p0 10 0 = mm_I q2.2 q5 ((0 : Int32)).toNatClampNeg := rdA_eq eq5
                          have w8797 := rdA_fr (k := 10) (j := 0) gq2 c0 t_p0 (κ' := 60) rfl rfl rfl
                          have a8799 := zi_and p2 8 (by decide)
                          exact sw_some ⟨cq30, fq30, (by (try simp only [zp, zo, zq] at u5318 xq2 h5319 xq12 h5332 xq14 a5352 u5353 h5354 h5355 h8082 h8083 a8338 h8339 h8584 w8585 w8586 r8587 r8588 r8589 h8590 h8610 h8730 h8775 w8776 w8777 w8779 w8781 w8780 w8782 w8784 w8785 w8787 w8786 w8789 w8790 w8791 w8793 w8792 w8794 w8798 w8797 a8799 ⊢) <;> (try simp only [zz, Int32.reduceToInt, ne_eq] at u5318 xq2 h5319 xq12 h5332 xq14 a5352 u5353 h5354 h5355 h8082 h8083 a8338 h8339 h8584 w8585 w8586 r8587 r8588 r8589 h8590 h8610 h8730 h8775 w8776 w8777 w8779 w8781 w8780 w8782 w8784 w8785 w8787 w8786 w8789 w8790 w8791 w8793 w8792 w8794 w8798 w8797 a8799 ⊢) <;> (try simp (disch := omega) only [zb] at u5318 xq2 h5319 xq12 h5332 xq14 a5352 u5353 h5354 h5355 h8082 h8083 a8338 h8339 h8584 w8585 w8586 r8587 r8588 r8589 h8590 h8610 h8730 h8775 w8776 w8777 w8779 w8781 w8780 w8782 w8784 w8785 w8787 w8786 w8789 w8790 w8791 w8793 w8792 w8794 w8798 w8797 a8799 ⊢) <;> first | omega | ((try simp (disch := omega) only [zb] at u5318 xq2 h5319 xq12 h5332 xq14 a5352 u5353 h5354 h5355 h8082 h8083 a8338 h8339 h8584 w8585 w8586 r8587 r8588 r8589 h8590 h8610 h8730 h8775 w8776 w8777 w8779 w8781 w8780 w8782 w8784 w8785 w8787 w8786 w8789 w8790 w8791 w8793 w8792 w8794 w8798 w8797 a8799 ⊢) <;> omega))⟩
                        · refine sw_sh (ci_sh cq30 t_p0 rfl) ?_
                          refine sw_on (sX9_put cq30 t_p0 (by (try simp only [zp, zo, zq] at u5318 xq2 h5319 xq12 h5332 xq14 a5352 u5353 h5354 h5355 h8082 h8083 a8338 h8339 h8584 w8585 w8586 r8587 r8588 r8589 h8590 h8610 h8730 h8775 ⊢) <;> (try simp only [zz, Int32.reduceToInt, ne_eq] at u5318 xq2 h5319 xq12 h5332 xq14 a5352 u5353 h5354 h5355 h8082 h8083 a8338 h8339 h8584 w8585 w8586 r8587 r8588 r8589 h8590 h8610 h8730 h8775 ⊢) <;> (try simp (disch := omega) only [zb] at u5318 xq2 h5319 xq12 h5332 xq14 a5352 u5353 h5354 h5355 h8082 h8083 a8338 h8339 h8584 w8585 w8586 r8587 r8588 r8589 h8590 h8610 h8730 h8775 ⊢) <;> first | omega | ((try simp (disch := omega) only [zb] at u5318 xq2 h5319 xq12 h5332 xq14 a5352 u5353 h5354 h5355 h8082 h8083 a8338 h8339 h8584 w8585 w8586 r8587 r8588 r8589 h8590 h8610 h8730 h8775 ⊢) <;> omega)) ) ?_
                          intro q28 hqq28
                          obtain ⟨cq28, gq28, xq28⟩ := hqq28
                          have fq28 := fr_trans fq30 gq28 rfl
                          have w8800 := (gq28.2.2 _ _ t_p0 0 rfl).1
                          have w8801 := (gq30.2.2 _ _ t_p0 0 rfl).1
                          have w8802 : mm_I s11 p0 0 = mm_I q2.2 p0 0 := by rw [← es11]; exact rd_k t_p0 tq5 (by decide)
                          have w8804 := rdA_fr (k := 9) (j := 1) gq28 cq30 t_p0 (κ' := 59) rfl rfl rfl
                          have w8805 := rdA_fr (k := 9) (j := 1) gq30 cs11 t_p0 (κ' := 59) rfl rfl rfl
                          have w8807 : rdA s11 p0 9 1 = mm_I s11 q17 ((1 : Int32)).toNatClampNeg := rdA_eq eq17
                          have w8806 : rdA s11 p0 9 1 = rdA q2.2 p0 9 1 := by rw [← es11]; exact rdA_k cq2 t_p0 (κ' := 59) rfl tq5 (by decide)
                          have w8808 := rdA_fr (k := 9) (j := 1) gq2 c0 t_p0 (κ' := 59) rfl rfl rfl
                          have w8810 := rdA_fr (k := 10) (j := 1) gq28 cq30 t_p0 (κ' := 60) rfl rfl rfl
                          have w8811 := rdA_fr (k := 10) (j := 1) gq30 cs11 t_p0 (κ' := 60) rfl rfl rfl
                          have w8812 : rdA s11 p0 10 1 = rdA q2.2 p0 10 1 := by rw [← es11]; exact rdA_j (by decide)
                          have w8814 : rdA q2.2 p0 10 1 = mm_I q2.2 q5 ((1 : Int32)).toNatClampNeg := rdA_eq eq5
                          have w8813 := rdA_fr (k := 10) (j := 1) gq2 c0 t_p0 (κ' := 60) rfl rfl rfl
                          have w8816 := rdA_fr (k := 10) (j := 0) gq28 cq30 t_p0 (κ' := 60) rfl rfl rfl
                          have w8817 := rdA_fr (k := 10) (j := 0) gq30 cs11 t_p0 (κ' := 60) rfl rfl rfl
                          have w8818 : rdA s11 p0 10 0 = -1 := by rw [← es11]; exact rdA_self eq5
                          have w8819 := rdA_fr (k := 9) (j := 0) gq28 cq30 t_p0 (κ' := 59) rfl rfl rfl
                          have w8820 := rdA_fr (k := 9) (j := 0) gq30 cs11 t_p0 (κ' := 59) rfl rfl rfl
                          have w8822 : rdA s11 p0 9 0 = mm_I s11 q17 ((0 : Int32)).toNatClampNeg := rdA_eq eq17
                          have w8821 : rdA s11 p0 9 0 = rdA q2.2 p0 9 0 := by rw [← es11]; exact rdA_k cq2 t_p0 (κ' := 59) rfl tq5 (by decide)
                          have w8823 := rdA_fr (k := 9) (j := 0) gq2 c0 t_p0 (κ' := 59) rfl rfl rfl
                          have w8827 : rdA q2.2 p0 10 0 = mm_I q2.2 q5 ((0 : Int32)).toNatClampNeg := rdA_eq eq5
                          have w8826 := rdA_fr (k := 10) (j := 0) gq2 c0 t_p0 (κ' := 60) rfl rfl rfl
                          have a8828 := zi_and p2 8 (by decide)
                          exact sw_some ⟨cq28, fq28, (by (try simp only [zp, zo, zq] at u5318 xq2 h5319 xq12 h5332 xq14 a5352 u5353 h5354 h5355 h8082 h8083 a8338 h8339 h8584 w8585 w8586 r8587 r8588 r8589 h8590 h8610 h8730 h8775 w8800 w8801 w8802 w8804 w8805 w8807 w8806 w8808 w8810 w8811 w8812 w8814 w8813 w8816 w8817 w8818 w8819 w8820 w8822 w8821 w8823 w8827 w8826 a8828 ⊢) <;> (try simp only [zz, Int32.reduceToInt, ne_eq] at u5318 xq2 h5319 xq12 h5332 xq14 a5352 u5353 h5354 h5355 h8082 h8083 a8338 h8339 h8584 w8585 w8586 r8587 r8588 r8589 h8590 h8610 h8730 h8775 w8800 w8801 w8802 w8804 w8805 w8807 w8806 w8808 w8810 w8811 w8812 w8814 w8813 w8816 w8817 w8818 w8819 w8820 w8822 w8821 w8823 w8827 w8826 a8828 ⊢) <;> (try simp (disch := omega) only [zb] at u5318 xq2 h5319 xq12 h5332 xq14 a5352 u5353 h5354 h5355 h8082 h8083 a8338 h8339 h8584 w8585 w8586 r8587 r8588 r8589 h8590 h8610 h8730 h8775 w8800 w8801 w8802 w8804 w8805 w8807 w8806 w8808 w8810 w8811 w8812 w8814 w8813 w8816 w8817 w8818 w8819 w8820 w8822 w8821 w8823 w8827 w8826 a8828 ⊢) <;> first | omega | ((try simp (disch := omega) only [zb] at u5318 xq2 h5319 xq12 h5332 xq14 a5352 u5353 h5354 h5355 h8082 h8083 a8338 h8339 h8584 w8585 w8586 r8587 r8588 r8589 h8590 h8610 h8730 h8775 w8800 w8801 w8802 w8804 w8805 w8807 w8806 w8808 w8810 w8811 w8812 w8814 w8813 w8816 w8817 w8818 w8819 w8820 w8822 w8821 w8823 w8827 w8826 a8828 ⊢) <;> omega))⟩
                · refine sw_ite (fun h8829 => ?_) (fun h8829 => ?_)
                  · unfold fX9_pair_222
                    unfold fX9_pair_228
                    have w8830 : mm_I s11 q17 ((0 : Int32).toNatClampNeg) = mm_I q2.2 q17 ((0 : Int32).toNatClampNeg) := by rw [← es11]; exact rd_k tq17 tq5 (by decide)
                    have w8831 := (gq2.2.2 _ _ tq17 ((0 : Int32).toNatClampNeg) rfl).1
                    have r8832 := ci_rg c0 tq17 ((0 : Int32).toNatClampNeg) (lo := (-1)) (hi := 3) rfl
                    have r8833 := ci_rg cq2 tq17 ((0 : Int32).toNatClampNeg) (lo := (-1)) (hi := 3) rfl
                    have r8834 := ci_rg cs11 tq17 ((0 : Int32).toNatClampNeg) (lo := (-1)) (hi := 3) rfl
                    refine sw_ite (fun h8835 => ?_) (fun h8835 => ?_)
                    · have w8836 : mm_I s11 p0 0 = mm_I q2.2 p0 0 := by rw [← es11]; exact rd_k t_p0 tq5 (by decide)
                      have w8839 : rdA s11 p0 9 1 = mm_I s11 q17 ((1 : Int32)).toNatClampNeg := rdA_eq eq17
                      have w8838 : rdA s11 p0 9 1 = rdA q2.2 p0 9 1 := by rw [← es11]; exact rdA_k cq2 t_p0 (κ' := 59) rfl tq5 (by decide)
                      have w8840 := rdA_fr (k := 9) (j := 1) gq2 c0 t_p0 (κ' := 59) rfl rfl rfl
                      have w8842 : rdA s11 p0 10 1 = rdA q2.2 p0 10 1 := by rw [← es11]; exact rdA_j (by decide)
                      have w8844 : rdA q2.2 p0 10 1 = mm_I q2.2 q5 ((1 : Int32)).toNatClampNeg := rdA_eq eq5
                      have w8843 := rdA_fr (k := 10) (j := 1) gq2 c0 t_p0 (κ' := 60) rfl rfl rfl
                      have w8846 : rdA s11 p0 10 0 = -1 := by rw [← es11]; exact rdA_self eq5
                      have w8848 : rdA s11 p0 9 0 = mm_I s11 q17 ((0 : Int32)).toNatClampNeg := rdA_eq eq17
                      have w8847 : rdA s11 p0 9 0 = rdA q2.2 p0 9 0 := by rw [← es11]; exact rdA_k cq2 t_p0 (κ' := 59) rfl tq5 (by decide)
                      have w8849 := rdA_fr (k := 9) (j := 0) gq2 c0 t_p0 (κ' := 59) rfl rfl rfl
                      have w8853 : rdA q2.2 p0 10 0 = mm_I q2.2 q5 ((0 : Int32)).toNatClampNeg := rdA_eq eq5
                      have w8852 := rdA_fr (k := 10) (j := 0) gq2 c0 t_p0 (κ' := 60) rfl rfl rfl
                      have a8854 := zi_and p2 8 (by decide)
                      exact sw_some ⟨cs11, fs11, (by (try simp only [zp, zo, zq] at u5318 xq2 h5319 xq12 h5332 xq14 a5352 u5353 h5354 h5355 h8082 h8083 a8338 h8339 h8584 h8829 w8830 w8831 r8832 r8833 r8834 h8835 w8836 w8839 w8838 w8840 w8842 w8844 w8843 w8846 w8848 w8847 w8849 w8853 w8852 a8854 ⊢) <;> (try simp only [zz, Int32.reduceToInt, ne_eq] at u5318 xq2 h5319 xq12 h5332 xq14 a5352 u5353 h5354 h5355 h8082 h8083 a8338 h8339 h8584 h8829 w8830 w8831 r8832 r8833 r8834 h8835 w8836 w8839 w8838 w8840 w8842 w8844 w8843 w8846 w8848 w8847 w8849 w8853 w8852 a8854 ⊢) <;> (try simp (disch := omega) only [zb] at u5318 xq2 h5319 xq12 h5332 xq14 a5352 u5353 h5354 h5355 h8082 h8083 a8338 h8339 h8584 h8829 w8830 w8831 r8832 r8833 r8834 h8835 w8836 w8839 w8838 w8840 w8842 w8844 w8843 w8846 w8848 w8847 w8849 w8853 w8852 a8854 ⊢) <;> first | omega | ((try simp (disch := omega) only [zb] at u5318 xq2 h5319 xq12 h5332 xq14 a5352 u5353 h5354 h5355 h8082 h8083 a8338 h8339 h8584 h8829 w8830 w8831 r8832 r8833 r8834 h8835 w8836 w8839 w8838 w8840 w8842 w8844 w8843 w8846 w8848 w8847 w8849 w8853 w8852 a8854 ⊢) <;> omega))⟩
                    · refine sw_ite (fun h8855 => ?_) (fun h8855 => ?_)
                      · refine sw_ite (fun h8856 => ?_) (fun h8856 => ?_)
                        · have w8857 : mm_I s11 p0 0 = mm_I q2.2 p0 0 := by rw [← es11]; exact rd_k t_p0 tq5 (by decide)
                          have w8860 : rdA s11 p0 9 1 = mm_I s11 q17 ((1 : Int32)).toNatClampNeg := rdA_eq eq17
                          have w8859 : rdA s11 p0 9 1 = rdA q2.2 p0 9 1 := by rw [← es11]; exact rdA_k cq2 t_p0 (κ' := 59) rfl tq5 (by decide)
                          have w8861 := rdA_fr (k := 9) (j := 1) gq2 c0 t_p0 (κ' := 59) rfl rfl rfl
                          have w8863 : rdA s11 p0 10 1 = rdA q2.2 p0 10 1 := by rw [← es11]; exact rdA_j (by decide)
                          have w8865 : rdA q2.2 p0 10 1 = mm_I q2.2 q5 ((1 : Int32)).toNatClampNeg := rdA_eq eq5
                          have w8864 := rdA_fr (k := 10) (j := 1) gq2 c0 t_p0 (κ' := 60) rfl rfl rfl
                          have w8867 : rdA s11 p0 10 0 = -1 := by rw [← es11]; exact rdA_self eq5
                          have w8869 : rdA s11 p0 9 0 = mm_I s11 q17 ((0 : Int32)).toNatClampNeg := rdA_eq eq17
                          have w8868 : rdA s11 p0 9 0 = rdA q2.2 p0 9 0 := by rw [← es11]; exact rdA_k cq2 t_p0 (κ' := 59) rfl tq5 (by decide)
                          have w8870 := rdA_fr (k := 9) (j := 0) gq2 c0 t_p0 (κ' := 59) rfl rfl rfl
                          have w8874 : rdA q2.2 p0 10 0 = mm_I q2.2 q5 ((0 : Int32)).toNatClampNeg := rdA_eq eq5
                          have w8873 := rdA_fr (k := 10) (j := 0) gq2 c0 t_p0 (κ' := 60) rfl rfl rfl
                          have a8875 := zi_and p2 8 (by decide)
                          exact sw_some ⟨cs11, fs11, (by (try simp only [zp, zo, zq] at u5318 xq2 h5319 xq12 h5332 xq14 a5352 u5353 h5354 h5355 h8082 h8083 a8338 h8339 h8584 h8829 w8830 w8831 r8832 r8833 r8834 h8835 h8855 h8856 w8857 w8860 w8859 w8861 w8863 w8865 w8864 w8867 w8869 w8868 w8870 w8874 w8873 a8875 ⊢) <;> (try simp only [zz, Int32.reduceToInt, ne_eq] at u5318 xq2 h5319 xq12 h5332 xq14 a5352 u5353 h5354 h5355 h8082 h8083 a8338 h8339 h8584 h8829 w8830 w8831 r8832 r8833 r8834 h8835 h8855 h8856 w8857 w8860 w8859 w8861 w8863 w8865 w8864 w8867 w8869 w8868 w8870 w8874 w8873 a8875 ⊢) <;> (try simp (disch := omega) only [zb] at u5318 xq2 h5319 xq12 h5332 xq14 a5352 u5353 h5354 h5355 h8082 h8083 a8338 h8339 h8584 h8829 w8830 w8831 r8832 r8833 r8834 h8835 h8855 h8856 w8857 w8860 w8859 w8861 w8863 w8865 w8864 w8867 w8869 w8868 w8870 w8874 w8873 a8875 ⊢) <;> first | omega | ((try simp (disch := omega) only [zb] at u5318 xq2 h5319 xq12 h5332 xq14 a5352 u5353 h5354 h5355 h8082 h8083 a8338 h8339 h8584 h8829 w8830 w8831 r8832 r8833 r8834 h8835 h8855 h8856 w8857 w8860 w8859 w8861 w8863 w8865 w8864 w8867 w8869 w8868 w8870 w8874 w8873 a8875 ⊢) <;> omega))⟩
                        · unfold fX9_pair_250
                          refine sw_ite (fun h8876 => ?_) (fun h8876 => ?_)
                          · unfold fX9_pair_264
                            refine sw_ite (fun h8877 => ?_) (fun h8877 => ?_)
                            · have w8878 : mm_I s11 p0 0 = mm_I q2.2 p0 0 := by rw [← es11]; exact rd_k t_p0 tq5 (by decide)
                              have w8881 : rdA s11 p0 9 1 = mm_I s11 q17 ((1 : Int32)).toNatClampNeg := rdA_eq eq17
                              have w8880 : rdA s11 p0 9 1 = rdA q2.2 p0 9 1 := by rw [← es11]; exact rdA_k cq2 t_p0 (κ' := 59) rfl tq5 (by decide)
                              have w8882 := rdA_fr (k := 9) (j := 1) gq2 c0 t_p0 (κ' := 59) rfl rfl rfl
                              have w8884 : rdA s11 p0 10 1 = rdA q2.2 p0 10 1 := by rw [← es11]; exact rdA_j (by decide)
                              have w8886 : rdA q2.2 p0 10 1 = mm_I q2.2 q5 ((1 : Int32)).toNatClampNeg := rdA_eq eq5
                              have w8885 := rdA_fr (k := 10) (j := 1) gq2 c0 t_p0 (κ' := 60) rfl rfl rfl
                              have w8888 : rdA s11 p0 10 0 = -1 := by rw [← es11]; exact rdA_self eq5
                              have w8890 : rdA s11 p0 9 0 = mm_I s11 q17 ((0 : Int32)).toNatClampNeg := rdA_eq eq17
                              have w8889 : rdA s11 p0 9 0 = rdA q2.2 p0 9 0 := by rw [← es11]; exact rdA_k cq2 t_p0 (κ' := 59) rfl tq5 (by decide)
                              have w8891 := rdA_fr (k := 9) (j := 0) gq2 c0 t_p0 (κ' := 59) rfl rfl rfl
                              have w8895 : rdA q2.2 p0 10 0 = mm_I q2.2 q5 ((0 : Int32)).toNatClampNeg := rdA_eq eq5
                              have w8894 := rdA_fr (k := 10) (j := 0) gq2 c0 t_p0 (κ' := 60) rfl rfl rfl
                              have a8896 := zi_and p2 8 (by decide)
                              exact sw_some ⟨cs11, fs11, (by (try simp only [zp, zo, zq] at u5318 xq2 h5319 xq12 h5332 xq14 a5352 u5353 h5354 h5355 h8082 h8083 a8338 h8339 h8584 h8829 w8830 w8831 r8832 r8833 r8834 h8835 h8855 h8856 h8876 h8877 w8878 w8881 w8880 w8882 w8884 w8886 w8885 w8888 w8890 w8889 w8891 w8895 w8894 a8896 ⊢) <;> (try simp only [zz, Int32.reduceToInt, ne_eq] at u5318 xq2 h5319 xq12 h5332 xq14 a5352 u5353 h5354 h5355 h8082 h8083 a8338 h8339 h8584 h8829 w8830 w8831 r8832 r8833 r8834 h8835 h8855 h8856 h8876 h8877 w8878 w8881 w8880 w8882 w8884 w8886 w8885 w8888 w8890 w8889 w8891 w8895 w8894 a8896 ⊢) <;> (try simp (disch := omega) only [zb] at u5318 xq2 h5319 xq12 h5332 xq14 a5352 u5353 h5354 h5355 h8082 h8083 a8338 h8339 h8584 h8829 w8830 w8831 r8832 r8833 r8834 h8835 h8855 h8856 h8876 h8877 w8878 w8881 w8880 w8882 w8884 w8886 w8885 w8888 w8890 w8889 w8891 w8895 w8894 a8896 ⊢) <;> first | omega | ((try simp (disch := omega) only [zb] at u5318 xq2 h5319 xq12 h5332 xq14 a5352 u5353 h5354 h5355 h8082 h8083 a8338 h8339 h8584 h8829 w8830 w8831 r8832 r8833 r8834 h8835 h8855 h8856 h8876 h8877 w8878 w8881 w8880 w8882 w8884 w8886 w8885 w8888 w8890 w8889 w8891 w8895 w8894 a8896 ⊢) <;> omega))⟩
                            · refine sw_sh (ci_sh cs11 t_p0 rfl) ?_
                              refine sw_on (sX9_put cs11 t_p0 (by (try simp only [zp, zo, zq] at u5318 xq2 h5319 xq12 h5332 xq14 a5352 u5353 h5354 h5355 h8082 h8083 a8338 h8339 h8584 h8829 w8830 w8831 r8832 r8833 r8834 h8835 h8855 h8856 h8876 h8877 ⊢) <;> (try simp only [zz, Int32.reduceToInt, ne_eq] at u5318 xq2 h5319 xq12 h5332 xq14 a5352 u5353 h5354 h5355 h8082 h8083 a8338 h8339 h8584 h8829 w8830 w8831 r8832 r8833 r8834 h8835 h8855 h8856 h8876 h8877 ⊢) <;> (try simp (disch := omega) only [zb] at u5318 xq2 h5319 xq12 h5332 xq14 a5352 u5353 h5354 h5355 h8082 h8083 a8338 h8339 h8584 h8829 w8830 w8831 r8832 r8833 r8834 h8835 h8855 h8856 h8876 h8877 ⊢) <;> first | omega | ((try simp (disch := omega) only [zb] at u5318 xq2 h5319 xq12 h5332 xq14 a5352 u5353 h5354 h5355 h8082 h8083 a8338 h8339 h8584 h8829 w8830 w8831 r8832 r8833 r8834 h8835 h8855 h8856 h8876 h8877 ⊢) <;> omega)) ) ?_
                              intro q28 hqq28
                              obtain ⟨cq28, gq28, xq28⟩ := hqq28
                              have fq28 := fr_trans fs11 gq28 rfl
                              have w8897 := (gq28.2.2 _ _ t_p0 0 rfl).1
                              have w8898 : mm_I s11 p0 0 = mm_I q2.2 p0 0 := by rw [← es11]; exact rd_k t_p0 tq5 (by decide)
                              have w8900 := rdA_fr (k := 9) (j := 1) gq28 cs11 t_p0 (κ' := 59) rfl rfl rfl
                              have w8902 : rdA s11 p0 9 1 = mm_I s11 q17 ((1 : Int32)).toNatClampNeg := rdA_eq eq17
                              have w8901 : rdA s11 p0 9 1 = rdA q2.2 p0 9 1 := by rw [← es11]; exact rdA_k cq2 t_p0 (κ' := 59) rfl tq5 (by decide)
                              have w8903 := rdA_fr (k := 9) (j := 1) gq2 c0 t_p0 (κ' := 59) rfl rfl rfl
                              have w8905 := rdA_fr (k := 10) (j := 1) gq28 cs11 t_p0 (κ' := 60) rfl rfl rfl
                              have w8906 : rdA s11 p0 10 1 = rdA q2.2 p0 10 1 := by rw [← es11]; exact rdA_j (by decide)
                              have w8908 : rdA q2.2 p0 10 1 = mm_I q2.2 q5 ((1 : Int32)).toNatClampNeg := rdA_eq eq5
                              have w8907 := rdA_fr (k := 10) (j := 1) gq2 c0 t_p0 (κ' := 60) rfl rfl rfl
                              have w8910 := rdA_fr (k := 10) (j := 0) gq28 cs11 t_p0 (κ' := 60) rfl rfl rfl
                              have w8911 : rdA s11 p0 10 0 = -1 := by rw [← es11]; exact rdA_self eq5
                              have w8912 := rdA_fr (k := 9) (j := 0) gq28 cs11 t_p0 (κ' := 59) rfl rfl rfl
                              have w8914 : rdA s11 p0 9 0 = mm_I s11 q17 ((0 : Int32)).toNatClampNeg := rdA_eq eq17
                              have w8913 : rdA s11 p0 9 0 = rdA q2.2 p0 9 0 := by rw [← es11]; exact rdA_k cq2 t_p0 (κ' := 59) rfl tq5 (by decide)
                              have w8915 := rdA_fr (k := 9) (j := 0) gq2 c0 t_p0 (κ' := 59) rfl rfl rfl
                              have w8919 : rdA q2.2 p0 10 0 = mm_I q2.2 q5 ((0 : Int32)).toNatClampNeg := rdA_eq eq5
                              have w8918 := rdA_fr (k := 10) (j := 0) gq2 c0 t_p0 (κ' := 60) rfl rfl rfl
                              have a8920 := zi_and p2 8 (by decide)
                              exact sw_some ⟨cq28, fq28, (by (try simp only [zp, zo, zq] at u5318 xq2 h5319 xq12 h5332 xq14 a5352 u5353 h5354 h5355 h8082 h8083 a8338 h8339 h8584 h8829 w8830 w8831 r8832 r8833 r8834 h8835 h8855 h8856 h8876 h8877 w8897 w8898 w8900 w8902 w8901 w8903 w8905 w8906 w8908 w8907 w8910 w8911 w8912 w8914 w8913 w8915 w8919 w8918 a8920 ⊢) <;> (try simp only [zz, Int32.reduceToInt, ne_eq] at u5318 xq2 h5319 xq12 h5332 xq14 a5352 u5353 h5354 h5355 h8082 h8083 a8338 h8339 h8584 h8829 w8830 w8831 r8832 r8833 r8834 h8835 h8855 h8856 h8876 h8877 w8897 w8898 w8900 w8902 w8901 w8903 w8905 w8906 w8908 w8907 w8910 w8911 w8912 w8914 w8913 w8915 w8919 w8918 a8920 ⊢) <;> (try simp (disch := omega) only [zb] at u5318 xq2 h5319 xq12 h5332 xq14 a5352 u5353 h5354 h5355 h8082 h8083 a8338 h8339 h8584 h8829 w8830 w8831 r8832 r8833 r8834 h8835 h8855 h8856 h8876 h8877 w8897 w8898 w8900 w8902 w8901 w8903 w8905 w8906 w8908 w8907 w8910 w8911 w8912 w8914 w8913 w8915 w8919 w8918 a8920 ⊢) <;> first | omega | ((try simp (disch := omega) only [zb] at u5318 xq2 h5319 xq12 h5332 xq14 a5352 u5353 h5354 h5355 h8082 h8083 a8338 h8339 h8584 h8829 w8830 w8831 r8832 r8833 r8834 h8835 h8855 h8856 h8876 h8877 w8897 w8898 w8900 w8902 w8901 w8903 w8905 w8906 w8908 w8907 w8910 w8911 w8912 w8914 w8913 w8915 w8919 w8918 a8920 ⊢) <;> omega))⟩
                          · refine sw_sh (ci_sh cs11 t_p0 rfl) ?_
                            refine sw_on (sX9_put cs11 t_p0 (by (try simp only [zp, zo, zq] at u5318 xq2 h5319 xq12 h5332 xq14 a5352 u5353 h5354 h5355 h8082 h8083 a8338 h8339 h8584 h8829 w8830 w8831 r8832 r8833 r8834 h8835 h8855 h8856 h8876 ⊢) <;> (try simp only [zz, Int32.reduceToInt, ne_eq] at u5318 xq2 h5319 xq12 h5332 xq14 a5352 u5353 h5354 h5355 h8082 h8083 a8338 h8339 h8584 h8829 w8830 w8831 r8832 r8833 r8834 h8835 h8855 h8856 h8876 ⊢) <;> (try simp (disch := omega) only [zb] at u5318 xq2 h5319 xq12 h5332 xq14 a5352 u5353 h5354 h5355 h8082 h8083 a8338 h8339 h8584 h8829 w8830 w8831 r8832 r8833 r8834 h8835 h8855 h8856 h8876 ⊢) <;> first | omega | ((try simp (disch := omega) only [zb] at u5318 xq2 h5319 xq12 h5332 xq14 a5352 u5353 h5354 h5355 h8082 h8083 a8338 h8339 h8584 h8829 w8830 w8831 r8832 r8833 r8834 h8835 h8855 h8856 h8876 ⊢) <;> omega)) ) ?_
                            intro q30 hqq30
                            obtain ⟨cq30, gq30, xq30⟩ := hqq30
                            have fq30 := fr_trans fs11 gq30 rfl
                            unfold fX9_pair_264
                            refine sw_ite (fun h8921 => ?_) (fun h8921 => ?_)
                            · have w8922 := (gq30.2.2 _ _ t_p0 0 rfl).1
                              have w8923 : mm_I s11 p0 0 = mm_I q2.2 p0 0 := by rw [← es11]; exact rd_k t_p0 tq5 (by decide)
                              have w8925 := rdA_fr (k := 9) (j := 1) gq30 cs11 t_p0 (κ' := 59) rfl rfl rfl
                              have w8927 : rdA s11 p0 9 1 = mm_I s11 q17 ((1 : Int32)).toNatClampNeg := rdA_eq eq17
                              have w8926 : rdA s11 p0 9 1 = rdA q2.2 p0 9 1 := by rw [← es11]; exact rdA_k cq2 t_p0 (κ' := 59) rfl tq5 (by decide)
                              have w8928 := rdA_fr (k := 9) (j := 1) gq2 c0 t_p0 (κ' := 59) rfl rfl rfl
                              have w8930 := rdA_fr (k := 10) (j := 1) gq30 cs11 t_p0 (κ' := 60) rfl rfl rfl
                              have w8931 : rdA s11 p0 10 1 = rdA q2.2 p0 10 1 := by rw [← es11]; exact rdA_j (by decide)
                              have w8933 : rdA q2.2 p0 10 1 = mm_I q2.2 q5 ((1 : Int32)).toNatClampNeg := rdA_eq eq5
                              have w8932 := rdA_fr (k := 10) (j := 1) gq2 c0 t_p0 (κ' := 60) rfl rfl rfl
                              have w8935 := rdA_fr (k := 10) (j := 0) gq30 cs11 t_p0 (κ' := 60) rfl rfl rfl
                              have w8936 : rdA s11 p0 10 0 = -1 := by rw [← es11]; exact rdA_self eq5
                              have w8937 := rdA_fr (k := 9) (j := 0) gq30 cs11 t_p0 (κ' := 59) rfl rfl rfl
                              have w8939 : rdA s11 p0 9 0 = mm_I s11 q17 ((0 : Int32)).toNatClampNeg := rdA_eq eq17
                              have w8938 : rdA s11 p0 9 0 = rdA q2.2 p0 9 0 := by rw [← es11]; exact rdA_k cq2 t_p0 (κ' := 59) rfl tq5 (by decide)
                              have w8940 := rdA_fr (k := 9) (j := 0) gq2 c0 t_p0 (κ' := 59) rfl rfl rfl
                              have w8944 : rdA q2.2 p0 10 0 = mm_I q2.2 q5 ((0 : Int32)).toNatClampNeg := rdA_eq eq5
                              have w8943 := rdA_fr (k := 10) (j := 0) gq2 c0 t_p0 (κ' := 60) rfl rfl rfl
                              have a8945 := zi_and p2 8 (by decide)
                              exact sw_some ⟨cq30, fq30, (by (try simp only [zp, zo, zq] at u5318 xq2 h5319 xq12 h5332 xq14 a5352 u5353 h5354 h5355 h8082 h8083 a8338 h8339 h8584 h8829 w8830 w8831 r8832 r8833 r8834 h8835 h8855 h8856 h8876 h8921 w8922 w8923 w8925 w8927 w8926 w8928 w8930 w8931 w8933 w8932 w8935 w8936 w8937 w8939 w8938 w8940 w8944 w8943 a8945 ⊢) <;> (try simp only [zz, Int32.reduceToInt, ne_eq] at u5318 xq2 h5319 xq12 h5332 xq14 a5352 u5353 h5354 h5355 h8082 h8083 a8338 h8339 h8584 h8829 w8830 w8831 r8832 r8833 r8834 h8835 h8855 h8856 h8876 h8921 w8922 w8923 w8925 w8927 w8926 w8928 w8930 w8931 w8933 w8932 w8935 w8936 w8937 w8939 w8938 w8940 w8944 w8943 a8945 ⊢) <;> (try simp (disch := omega) only [zb] at u5318 xq2 h5319 xq12 h5332 xq14 a5352 u5353 h5354 h5355 h8082 h8083 a8338 h8339 h8584 h8829 w8830 w8831 r8832 r8833 r8834 h8835 h8855 h8856 h8876 h8921 w8922 w8923 w8925 w8927 w8926 w8928 w8930 w8931 w8933 w8932 w8935 w8936 w8937 w8939 w8938 w8940 w8944 w8943 a8945 ⊢) <;> first | omega | ((try simp (disch := omega) only [zb] at u5318 xq2 h5319 xq12 h5332 xq14 a5352 u5353 h5354 h5355 h8082 h8083 a8338 h8339 h8584 h8829 w8830 w8831 r8832 r8833 r8834 h8835 h8855 h8856 h8876 h8921 w8922 w8923 w8925 w8927 w8926 w8928 w8930 w8931 w8933 w8932 w8935 w8936 w8937 w8939 w8938 w8940 w8944 w8943 a8945 ⊢) <;> omega))⟩
                            · refine sw_sh (ci_sh cq30 t_p0 rfl) ?_
                              refine sw_on (sX9_put cq30 t_p0 (by (try simp only [zp, zo, zq] at u5318 xq2 h5319 xq12 h5332 xq14 a5352 u5353 h5354 h5355 h8082 h8083 a8338 h8339 h8584 h8829 w8830 w8831 r8832 r8833 r8834 h8835 h8855 h8856 h8876 h8921 ⊢) <;> (try simp only [zz, Int32.reduceToInt, ne_eq] at u5318 xq2 h5319 xq12 h5332 xq14 a5352 u5353 h5354 h5355 h8082 h8083 a8338 h8339 h8584 h8829 w8830 w8831 r8832 r8833 r8834 h8835 h8855 h8856 h8876 h8921 ⊢) <;> (try simp (disch := omega) only [zb] at u5318 xq2 h5319 xq12 h5332 xq14 a5352 u5353 h5354 h5355 h8082 h8083 a8338 h8339 h8584 h8829 w8830 w8831 r8832 r8833 r8834 h8835 h8855 h8856 h8876 h8921 ⊢) <;> first | omega | ((try simp (disch := omega) only [zb] at u5318 xq2 h5319 xq12 h5332 xq14 a5352 u5353 h5354 h5355 h8082 h8083 a8338 h8339 h8584 h8829 w8830 w8831 r8832 r8833 r8834 h8835 h8855 h8856 h8876 h8921 ⊢) <;> omega)) ) ?_
                              intro q28 hqq28
                              obtain ⟨cq28, gq28, xq28⟩ := hqq28
                              have fq28 := fr_trans fq30 gq28 rfl
                              have w8946 := (gq28.2.2 _ _ t_p0 0 rfl).1
                              have w8947 := (gq30.2.2 _ _ t_p0 0 rfl).1
                              have w8948 : mm_I s11 p0 0 = mm_I q2.2 p0 0 := by rw [← es11]; exact rd_k t_p0 tq5 (by decide)
                              have w8950 := rdA_fr (k := 9) (j := 1) gq28 cq30 t_p0 (κ' := 59) rfl rfl rfl
                              have w8951 := rdA_fr (k := 9) (j := 1) gq30 cs11 t_p0 (κ' := 59) rfl rfl rfl
                              have w8953 : rdA s11 p0 9 1 = mm_I s11 q17 ((1 : Int32)).toNatClampNeg := rdA_eq eq17
                              have w8952 : rdA s11 p0 9 1 = rdA q2.2 p0 9 1 := by rw [← es11]; exact rdA_k cq2 t_p0 (κ' := 59) rfl tq5 (by decide)
                              have w8954 := rdA_fr (k := 9) (j := 1) gq2 c0 t_p0 (κ' := 59) rfl rfl rfl
                              have w8956 := rdA_fr (k := 10) (j := 1) gq28 cq30 t_p0 (κ' := 60) rfl rfl rfl
                              have w8957 := rdA_fr (k := 10) (j := 1) gq30 cs11 t_p0 (κ' := 60) rfl rfl rfl
                              have w8958 : rdA s11 p0 10 1 = rdA q2.2 p0 10 1 := by rw [← es11]; exact rdA_j (by decide)
                              have w8960 : rdA q2.2 p0 10 1 = mm_I q2.2 q5 ((1 : Int32)).toNatClampNeg := rdA_eq eq5
                              have w8959 := rdA_fr (k := 10) (j := 1) gq2 c0 t_p0 (κ' := 60) rfl rfl rfl
                              have w8962 := rdA_fr (k := 10) (j := 0) gq28 cq30 t_p0 (κ' := 60) rfl rfl rfl
                              have w8963 := rdA_fr (k := 10) (j := 0) gq30 cs11 t_p0 (κ' := 60) rfl rfl rfl
                              have w8964 : rdA s11 p0 10 0 = -1 := by rw [← es11]; exact rdA_self eq5
                              have w8965 := rdA_fr (k := 9) (j := 0) gq28 cq30 t_p0 (κ' := 59) rfl rfl rfl
                              have w8966 := rdA_fr (k := 9) (j := 0) gq30 cs11 t_p0 (κ' := 59) rfl rfl rfl
                              have w8968 : rdA s11 p0 9 0 = mm_I s11 q17 ((0 : Int32)).toNatClampNeg := rdA_eq eq17
                              have w8967 : rdA s11 p0 9 0 = rdA q2.2 p0 9 0 := by rw [← es11]; exact rdA_k cq2 t_p0 (κ' := 59) rfl tq5 (by decide)
                              have w8969 := rdA_fr (k := 9) (j := 0) gq2 c0 t_p0 (κ' := 59) rfl rfl rfl
                              have w8973 : rdA q2.2 p0 10 0 = mm_I q2.2 q5 ((0 : Int32)).toNatClampNeg := rdA_eq eq5
                              have w8972 := rdA_fr (k := 10) (j := 0) gq2 c0 t_p0 (κ' := 60) rfl rfl rfl
                              have a8974 := zi_and p2 8 (by decide)
                              exact sw_some ⟨cq28, fq28, (by (try simp only [zp, zo, zq] at u5318 xq2 h5319 xq12 h5332 xq14 a5352 u5353 h5354 h5355 h8082 h8083 a8338 h8339 h8584 h8829 w8830 w8831 r8832 r8833 r8834 h8835 h8855 h8856 h8876 h8921 w8946 w8947 w8948 w8950 w8951 w8953 w8952 w8954 w8956 w8957 w8958 w8960 w8959 w8962 w8963 w8964 w8965 w8966 w8968 w8967 w8969 w8973 w8972 a8974 ⊢) <;> (try simp only [zz, Int32.reduceToInt, ne_eq] at u5318 xq2 h5319 xq12 h5332 xq14 a5352 u5353 h5354 h5355 h8082 h8083 a8338 h8339 h8584 h8829 w8830 w8831 r8832 r8833 r8834 h8835 h8855 h8856 h8876 h8921 w8946 w8947 w8948 w8950 w8951 w8953 w8952 w8954 w8956 w8957 w8958 w8960 w8959 w8962 w8963 w8964 w8965 w8966 w8968 w8967 w8969 w8973 w8972 a8974 ⊢) <;> (try simp (disch := omega) only [zb] at u5318 xq2 h5319 xq12 h5332 xq14 a5352 u5353 h5354 h5355 h8082 h8083 a8338 h8339 h8584 h8829 w8830 w8831 r8832 r8833 r8834 h8835 h8855 h8856 h8876 h8921 w8946 w8947 w8948 w8950 w8951 w8953 w8952 w8954 w8956 w8957 w8958 w8960 w8959 w8962 w8963 w8964 w8965 w8966 w8968 w8967 w8969 w8973 w8972 a8974 ⊢) <;> first | omega | ((try simp (disch := omega) only [zb] at u5318 xq2 h5319 xq12 h5332 xq14 a5352 u5353 h5354 h5355 h8082 h8083 a8338 h8339 h8584 h8829 w8830 w8831 r8832 r8833 r8834 h8835 h8855 h8856 h8876 h8921 w8946 w8947 w8948 w8950 w8951 w8953 w8952 w8954 w8956 w8957 w8958 w8960 w8959 w8962 w8963 w8964 w8965 w8966 w8968 w8967 w8969 w8973 w8972 a8974 ⊢) <;> omega))⟩
                      · unfold fX9_pair_250
                        refine sw_ite (fun h8975 => ?_) (fun h8975 => ?_)
                        · unfold fX9_pair_264
                          refine sw_ite (fun h8976 => ?_) (fun h8976 => ?_)
                          · have w8977 : mm_I s11 p0 0 = mm_I q2.2 p0 0 := by rw [← es11]; exact rd_k t_p0 tq5 (by decide)
                            have w8980 : rdA s11 p0 9 1 = mm_I s11 q17 ((1 : Int32)).toNatClampNeg := rdA_eq eq17
                            have w8979 : rdA s11 p0 9 1 = rdA q2.2 p0 9 1 := by rw [← es11]; exact rdA_k cq2 t_p0 (κ' := 59) rfl tq5 (by decide)
                            have w8981 := rdA_fr (k := 9) (j := 1) gq2 c0 t_p0 (κ' := 59) rfl rfl rfl
                            have w8983 : rdA s11 p0 10 1 = rdA q2.2 p0 10 1 := by rw [← es11]; exact rdA_j (by decide)
                            have w8985 : rdA q2.2 p0 10 1 = mm_I q2.2 q5 ((1 : Int32)).toNatClampNeg := rdA_eq eq5
                            have w8984 := rdA_fr (k := 10) (j := 1) gq2 c0 t_p0 (κ' := 60) rfl rfl rfl
                            have w8987 : rdA s11 p0 10 0 = -1 := by rw [← es11]; exact rdA_self eq5
                            have w8989 : rdA s11 p0 9 0 = mm_I s11 q17 ((0 : Int32)).toNatClampNeg := rdA_eq eq17
                            have w8988 : rdA s11 p0 9 0 = rdA q2.2 p0 9 0 := by rw [← es11]; exact rdA_k cq2 t_p0 (κ' := 59) rfl tq5 (by decide)
                            have w8990 := rdA_fr (k := 9) (j := 0) gq2 c0 t_p0 (κ' := 59) rfl rfl rfl
                            have w8994 : rdA q2.2 p0 10 0 = mm_I q2.2 q5 ((0 : Int32)).toNatClampNeg := rdA_eq eq5
                            have w8993 := rdA_fr (k := 10) (j := 0) gq2 c0 t_p0 (κ' := 60) rfl rfl rfl
                            have a8995 := zi_and p2 8 (by decide)
                            exact sw_some ⟨cs11, fs11, (by (try simp only [zp, zo, zq] at u5318 xq2 h5319 xq12 h5332 xq14 a5352 u5353 h5354 h5355 h8082 h8083 a8338 h8339 h8584 h8829 w8830 w8831 r8832 r8833 r8834 h8835 h8855 h8975 h8976 w8977 w8980 w8979 w8981 w8983 w8985 w8984 w8987 w8989 w8988 w8990 w8994 w8993 a8995 ⊢) <;> (try simp only [zz, Int32.reduceToInt, ne_eq] at u5318 xq2 h5319 xq12 h5332 xq14 a5352 u5353 h5354 h5355 h8082 h8083 a8338 h8339 h8584 h8829 w8830 w8831 r8832 r8833 r8834 h8835 h8855 h8975 h8976 w8977 w8980 w8979 w8981 w8983 w8985 w8984 w8987 w8989 w8988 w8990 w8994 w8993 a8995 ⊢) <;> (try simp (disch := omega) only [zb] at u5318 xq2 h5319 xq12 h5332 xq14 a5352 u5353 h5354 h5355 h8082 h8083 a8338 h8339 h8584 h8829 w8830 w8831 r8832 r8833 r8834 h8835 h8855 h8975 h8976 w8977 w8980 w8979 w8981 w8983 w8985 w8984 w8987 w8989 w8988 w8990 w8994 w8993 a8995 ⊢) <;> first | omega | ((try simp (disch := omega) only [zb] at u5318 xq2 h5319 xq12 h5332 xq14 a5352 u5353 h5354 h5355 h8082 h8083 a8338 h8339 h8584 h8829 w8830 w8831 r8832 r8833 r8834 h8835 h8855 h8975 h8976 w8977 w8980 w8979 w8981 w8983 w8985 w8984 w8987 w8989 w8988 w8990 w8994 w8993 a8995 ⊢) <;> omega))⟩
                          · refine sw_sh (ci_sh cs11 t_p0 rfl) ?_
                            refine sw_on (sX9_put cs11 t_p0 (by (try simp only [zp, zo, zq] at u5318 xq2 h5319 xq12 h5332 xq14 a5352 u5353 h5354 h5355 h8082 h8083 a8338 h8339 h8584 h8829 w8830 w8831 r8832 r8833 r8834 h8835 h8855 h8975 h8976 ⊢) <;> (try simp only [zz, Int32.reduceToInt, ne_eq] at u5318 xq2 h5319 xq12 h5332 xq14 a5352 u5353 h5354 h5355 h8082 h8083 a8338 h8339 h8584 h8829 w8830 w8831 r8832 r8833 r8834 h8835 h8855 h8975 h8976 ⊢) <;> (try simp (disch := omega) only [zb] at u5318 xq2 h5319 xq12 h5332 xq14 a5352 u5353 h5354 h5355 h8082 h8083 a8338 h8339 h8584 h8829 w8830 w8831 r8832 r8833 r8834 h8835 h8855 h8975 h8976 ⊢) <;> first | omega | ((try simp (disch := omega) only [zb] at u5318 xq2 h5319 xq12 h5332 xq14 a5352 u5353 h5354 h5355 h8082 h8083 a8338 h8339 h8584 h8829 w8830 w8831 r8832 r8833 r8834 h8835 h8855 h8975 h8976 ⊢) <;> omega)) ) ?_
                            intro q28 hqq28
                            obtain ⟨cq28, gq28, xq28⟩ := hqq28
                            have fq28 := fr_trans fs11 gq28 rfl
                            have w8996 := (gq28.2.2 _ _ t_p0 0 rfl).1
                            have w8997 : mm_I s11 p0 0 = mm_I q2.2 p0 0 := by rw [← es11]; exact rd_k t_p0 tq5 (by decide)
                            have w8999 := rdA_fr (k := 9) (j := 1) gq28 cs11 t_p0 (κ' := 59) rfl rfl rfl
                            have w9001 : rdA s11 p0 9 1 = mm_I s11 q17 ((1 : Int32)).toNatClampNeg := rdA_eq eq17
                            have w9000 : rdA s11 p0 9 1 = rdA q2.2 p0 9 1 := by rw [← es11]; exact rdA_k cq2 t_p0 (κ' := 59) rfl tq5 (by decide)
                            have w9002 := rdA_fr (k := 9) (j := 1) gq2 c0 t_p0 (κ' := 59) rfl rfl rfl
                            have w9004 := rdA_fr (k := 10) (j := 1) gq28 cs11 t_p0 (κ' := 60) rfl rfl rfl
                            have w9005 : rdA s11 p0 10 1 = rdA q2.2 p0 10 1 := by rw [← es11]; exact rdA_j (by decide)
                            have w9007 : rdA q2.2 p0 10 1 = mm_I q2.2 q5 ((1 : Int32)).toNatClampNeg := rdA_eq eq5
                            have w9006 := rdA_fr (k := 10) (j := 1) gq2 c0 t_p0 (κ' := 60) rfl rfl rfl
                            have w9009 := rdA_fr (k := 10) (j := 0) gq28 cs11 t_p0 (κ' := 60) rfl rfl rfl
                            have w9010 : rdA s11 p0 10 0 = -1 := by rw [← es11]; exact rdA_self eq5
                            have w9011 := rdA_fr (k := 9) (j := 0) gq28 cs11 t_p0 (κ' := 59) rfl rfl rfl
                            have w9013 : rdA s11 p0 9 0 = mm_I s11 q17 ((0 : Int32)).toNatClampNeg := rdA_eq eq17
                            have w9012 : rdA s11 p0 9 0 = rdA q2.2 p0 9 0 := by rw [← es11]; exact rdA_k cq2 t_p0 (κ' := 59) rfl tq5 (by decide)
                            have w9014 := rdA_fr (k := 9) (j := 0) gq2 c0 t_p0 (κ' := 59) rfl rfl rfl
                            have w9018 : rdA q2.2 p0 10 0 = mm_I q2.2 q5 ((0 : Int32)).toNatClampNeg := rdA_eq eq5
                            have w9017 := rdA_fr (k := 10) (j := 0) gq2 c0 t_p0 (κ' := 60) rfl rfl rfl
                            have a9019 := zi_and p2 8 (by decide)
                            exact sw_some ⟨cq28, fq28, (by (try simp only [zp, zo, zq] at u5318 xq2 h5319 xq12 h5332 xq14 a5352 u5353 h5354 h5355 h8082 h8083 a8338 h8339 h8584 h8829 w8830 w8831 r8832 r8833 r8834 h8835 h8855 h8975 h8976 w8996 w8997 w8999 w9001 w9000 w9002 w9004 w9005 w9007 w9006 w9009 w9010 w9011 w9013 w9012 w9014 w9018 w9017 a9019 ⊢) <;> (try simp only [zz, Int32.reduceToInt, ne_eq] at u5318 xq2 h5319 xq12 h5332 xq14 a5352 u5353 h5354 h5355 h8082 h8083 a8338 h8339 h8584 h8829 w8830 w8831 r8832 r8833 r8834 h8835 h8855 h8975 h8976 w8996 w8997 w8999 w9001 w9000 w9002 w9004 w9005 w9007 w9006 w9009 w9010 w9011 w9013 w9012 w9014 w9018 w9017 a9019 ⊢) <;> (try simp (disch := omega) only [zb] at u5318 xq2 h5319 xq12 h5332 xq14 a5352 u5353 h5354 h5355 h8082 h8083 a8338 h8339 h8584 h8829 w8830 w8831 r8832 r8833 r8834 h8835 h8855 h8975 h8976 w8996 w8997 w8999 w9001 w9000 w9002 w9004 w9005 w9007 w9006 w9009 w9010 w9011 w9013 w9012 w9014 w9018 w9017 a9019 ⊢) <;> first | omega | ((try simp (disch := omega) only [zb] at u5318 xq2 h5319 xq12 h5332 xq14 a5352 u5353 h5354 h5355 h8082 h8083 a8338 h8339 h8584 h8829 w8830 w8831 r8832 r8833 r8834 h8835 h8855 h8975 h8976 w8996 w8997 w8999 w9001 w9000 w9002 w9004 w9005 w9007 w9006 w9009 w9010 w9011 w9013 w9012 w9014 w9018 w9017 a9019 ⊢) <;> omega))⟩
                        · refine sw_sh (ci_sh cs11 t_p0 rfl) ?_
                          refine sw_on (sX9_put cs11 t_p0 (by (try simp only [zp, zo, zq] at u5318 xq2 h5319 xq12 h5332 xq14 a5352 u5353 h5354 h5355 h8082 h8083 a8338 h8339 h8584 h8829 w8830 w8831 r8832 r8833 r8834 h8835 h8855 h8975 ⊢) <;> (try simp only [zz, Int32.reduceToInt, ne_eq] at u5318 xq2 h5319 xq12 h5332 xq14 a5352 u5353 h5354 h5355 h8082 h8083 a8338 h8339 h8584 h8829 w8830 w8831 r8832 r8833 r8834 h8835 h8855 h8975 ⊢) <;> (try simp (disch := omega) only [zb] at u5318 xq2 h5319 xq12 h5332 xq14 a5352 u5353 h5354 h5355 h8082 h8083 a8338 h8339 h8584 h8829 w8830 w8831 r8832 r8833 r8834 h8835 h8855 h8975 ⊢) <;> first | omega | ((try simp (disch := omega) only [zb] at u5318 xq2 h5319 xq12 h5332 xq14 a5352 u5353 h5354 h5355 h8082 h8083 a8338 h8339 h8584 h8829 w8830 w8831 r8832 r8833 r8834 h8835 h8855 h8975 ⊢) <;> omega)) ) ?_
                          intro q30 hqq30
                          obtain ⟨cq30, gq30, xq30⟩ := hqq30
                          have fq30 := fr_trans fs11 gq30 rfl
                          unfold fX9_pair_264
                          refine sw_ite (fun h9020 => ?_) (fun h9020 => ?_)
                          · have w9021 := (gq30.2.2 _ _ t_p0 0 rfl).1
                            have w9022 : mm_I s11 p0 0 = mm_I q2.2 p0 0 := by rw [← es11]; exact rd_k t_p0 tq5 (by decide)
                            have w9024 := rdA_fr (k := 9) (j := 1) gq30 cs11 t_p0 (κ' := 59) rfl rfl rfl
                            have w9026 : rdA s11 p0 9 1 = mm_I s11 q17 ((1 : Int32)).toNatClampNeg := rdA_eq eq17
                            have w9025 : rdA s11 p0 9 1 = rdA q2.2 p0 9 1 := by rw [← es11]; exact rdA_k cq2 t_p0 (κ' := 59) rfl tq5 (by decide)
                            have w9027 := rdA_fr (k := 9) (j := 1) gq2 c0 t_p0 (κ' := 59) rfl rfl rfl
                            have w9029 := rdA_fr (k := 10) (j := 1) gq30 cs11 t_p0 (κ' := 60) rfl rfl rfl
                            have w9030 : rdA s11 p0 10 1 = rdA q2.2 p0 10 1 := by rw [← es11]; exact rdA_j (by decide)
                            have w9032 : rdA q2.2 p0 10 1 = mm_I q2.2 q5 ((1 : Int32)).toNatClampNeg := rdA_eq eq5
                            have w9031 := rdA_fr (k := 10) (j := 1) gq2 c0 t_p0 (κ' := 60) rfl rfl rfl
                            have w9034 := rdA_fr (k := 10) (j := 0) gq30 cs11 t_p0 (κ' := 60) rfl rfl rfl
                            have w9035 : rdA s11 p0 10 0 = -1 := by rw [← es11]; exact rdA_self eq5
                            have w9036 := rdA_fr (k := 9) (j := 0) gq30 cs11 t_p0 (κ' := 59) rfl rfl rfl
                            have w9038 : rdA s11 p0 9 0 = mm_I s11 q17 ((0 : Int32)).toNatClampNeg := rdA_eq eq17
                            have w9037 : rdA s11 p0 9 0 = rdA q2.2 p0 9 0 := by rw [← es11]; exact rdA_k cq2 t_p0 (κ' := 59) rfl tq5 (by decide)
                            have w9039 := rdA_fr (k := 9) (j := 0) gq2 c0 t_p0 (κ' := 59) rfl rfl rfl
                            have w9043 : rdA q2.2 p0 10 0 = mm_I q2.2 q5 ((0 : Int32)).toNatClampNeg := rdA_eq eq5
                            have w9042 := rdA_fr (k := 10) (j := 0) gq2 c0 t_p0 (κ' := 60) rfl rfl rfl
                            have a9044 := zi_and p2 8 (by decide)
                            exact sw_some ⟨cq30, fq30, (by (try simp only [zp, zo, zq] at u5318 xq2 h5319 xq12 h5332 xq14 a5352 u5353 h5354 h5355 h8082 h8083 a8338 h8339 h8584 h8829 w8830 w8831 r8832 r8833 r8834 h8835 h8855 h8975 h9020 w9021 w9022 w9024 w9026 w9025 w9027 w9029 w9030 w9032 w9031 w9034 w9035 w9036 w9038 w9037 w9039 w9043 w9042 a9044 ⊢) <;> (try simp only [zz, Int32.reduceToInt, ne_eq] at u5318 xq2 h5319 xq12 h5332 xq14 a5352 u5353 h5354 h5355 h8082 h8083 a8338 h8339 h8584 h8829 w8830 w8831 r8832 r8833 r8834 h8835 h8855 h8975 h9020 w9021 w9022 w9024 w9026 w9025 w9027 w9029 w9030 w9032 w9031 w9034 w9035 w9036 w9038 w9037 w9039 w9043 w9042 a9044 ⊢) <;> (try simp (disch := omega) only [zb] at u5318 xq2 h5319 xq12 h5332 xq14 a5352 u5353 h5354 h5355 h8082 h8083 a8338 h8339 h8584 h8829 w8830 w8831 r8832 r8833 r8834 h8835 h8855 h8975 h9020 w9021 w9022 w9024 w9026 w9025 w9027 w9029 w9030 w9032 w9031 w9034 w9035 w9036 w9038 w9037 w9039 w9043 w9042 a9044 ⊢) <;> first | omega | ((try simp (disch := omega) only [zb] at u5318 xq2 h5319 xq12 h5332 xq14 a5352 u5353 h5354 h5355 h8082 h8083 a8338 h8339 h8584 h8829 w8830 w8831 r8832 r8833 r8834 h8835 h8855 h8975 h9020 w9021 w9022 w9024 w9026 w9025 w9027 w9029 w9030 w9032 w9031 w9034 w9035 w9036 w9038 w9037 w9039 w9043 w9042 a9044 ⊢) <;> omega))⟩
                          · refine sw_sh (ci_sh cq30 t_p0 rfl) ?_
                            refine sw_on (sX9_put cq30 t_p0 (by (try simp only [zp, zo, zq] at u5318 xq2 h5319 xq12 h5332 xq14 a5352 u5353 h5354 h5355 h8082 h8083 a8338 h8339 h8584 h8829 w8830 w8831 r8832 r8833 r8834 h8835 h8855 h8975 h9020 ⊢) <;> (try simp only [zz, Int32.reduceToInt, ne_eq] at u5318 xq2 h5319 xq12 h5332 xq14 a5352 u5353 h5354 h5355 h8082 h8083 a8338 h8339 h8584 h8829 w8830 w8831 r8832 r8833 r8834 h8835 h8855 h8975 h9020 ⊢) <;> (try simp (disch := omega) only [zb] at u5318 xq2 h5319 xq12 h5332 xq14 a5352 u5353 h5354 h5355 h8082 h8083 a8338 h8339 h8584 h8829 w8830 w8831 r8832 r8833 r8834 h8835 h8855 h8975 h9020 ⊢) <;> first | omega | ((try simp (disch := omega) only [zb] at u5318 xq2 h5319 xq12 h5332 xq14 a5352 u5353 h5354 h5355 h8082 h8083 a8338 h8339 h8584 h8829 w8830 w8831 r8832 r8833 r8834 h8835 h8855 h8975 h9020 ⊢) <;> omega)) ) ?_
                            intro q28 hqq28
                            obtain ⟨cq28, gq28, xq28⟩ := hqq28
                            have fq28 := fr_trans fq30 gq28 rfl
                            have w9045 := (gq28.2.2 _ _ t_p0 0 rfl).1
                            have w9046 := (gq30.2.2 _ _ t_p0 0 rfl).1
                            have w9047 : mm_I s11 p0 0 = mm_I q2.2 p0 0 := by rw [← es11]; exact rd_k t_p0 tq5 (by decide)
                            have w9049 := rdA_fr (k := 9) (j := 1) gq28 cq30 t_p0 (κ' := 59) rfl rfl rfl
                            have w9050 := rdA_fr (k := 9) (j := 1) gq30 cs11 t_p0 (κ' := 59) rfl rfl rfl
                            have w9052 : rdA s11 p0 9 1 = mm_I s11 q17 ((1 : Int32)).toNatClampNeg := rdA_eq eq17
                            have w9051 : rdA s11 p0 9 1 = rdA q2.2 p0 9 1 := by rw [← es11]; exact rdA_k cq2 t_p0 (κ' := 59) rfl tq5 (by decide)
                            have w9053 := rdA_fr (k := 9) (j := 1) gq2 c0 t_p0 (κ' := 59) rfl rfl rfl
                            have w9055 := rdA_fr (k := 10) (j := 1) gq28 cq30 t_p0 (κ' := 60) rfl rfl rfl
                            have w9056 := rdA_fr (k := 10) (j := 1) gq30 cs11 t_p0 (κ' := 60) rfl rfl rfl
                            have w9057 : rdA s11 p0 10 1 = rdA q2.2 p0 10 1 := by rw [← es11]; exact rdA_j (by decide)
                            have w9059 : rdA q2.2 p0 10 1 = mm_I q2.2 q5 ((1 : Int32)).toNatClampNeg := rdA_eq eq5
                            have w9058 := rdA_fr (k := 10) (j := 1) gq2 c0 t_p0 (κ' := 60) rfl rfl rfl
                            have w9061 := rdA_fr (k := 10) (j := 0) gq28 cq30 t_p0 (κ' := 60) rfl rfl rfl
                            have w9062 := rdA_fr (k := 10) (j := 0) gq30 cs11 t_p0 (κ' := 60) rfl rfl rfl
                            have w9063 : rdA s11 p0 10 0 = -1 := by rw [← es11]; exact rdA_self eq5
                            have w9064 := rdA_fr (k := 9) (j := 0) gq28 cq30 t_p0 (κ' := 59) rfl rfl rfl
                            have w9065 := rdA_fr (k := 9) (j := 0) gq30 cs11 t_p0 (κ' := 59) rfl rfl rfl
                            have w9067 : rdA s11 p0 9 0 = mm_I s11 q17 ((0 : Int32)).toNatClampNeg := rdA_eq eq17
                            have w9066 : rdA s11 p0 9 0 = rdA q2.2 p0 9 0 := by rw [← es11]; exact rdA_k cq2 t_p0 (κ' := 59) rfl tq5 (by decide)
                            have w9068 := rdA_fr (k := 9) (j := 0) gq2 c0 t_p0 (κ' := 59) rfl rfl rfl
                            have w9072 : rdA q2.2 p0 10 0 = mm_I q2.2 q5 ((0 : Int32)).toNatClampNeg := rdA_eq eq5
                            have w9071 := rdA_fr (k := 10) (j := 0) gq2 c0 t_p0 (κ' := 60) rfl rfl rfl
                            have a9073 := zi_and p2 8 (by decide)
                            exact sw_some ⟨cq28, fq28, (by (try simp only [zp, zo, zq] at u5318 xq2 h5319 xq12 h5332 xq14 a5352 u5353 h5354 h5355 h8082 h8083 a8338 h8339 h8584 h8829 w8830 w8831 r8832 r8833 r8834 h8835 h8855 h8975 h9020 w9045 w9046 w9047 w9049 w9050 w9052 w9051 w9053 w9055 w9056 w9057 w9059 w9058 w9061 w9062 w9063 w9064 w9065 w9067 w9066 w9068 w9072 w9071 a9073 ⊢) <;> (try simp only [zz, Int32.reduceToInt, ne_eq] at u5318 xq2 h5319 xq12 h5332 xq14 a5352 u5353 h5354 h5355 h8082 h8083 a8338 h8339 h8584 h8829 w8830 w8831 r8832 r8833 r8834 h8835 h8855 h8975 h9020 w9045 w9046 w9047 w9049 w9050 w9052 w9051 w9053 w9055 w9056 w9057 w9059 w9058 w9061 w9062 w9063 w9064 w9065 w9067 w9066 w9068 w9072 w9071 a9073 ⊢) <;> (try simp (disch := omega) only [zb] at u5318 xq2 h5319 xq12 h5332 xq14 a5352 u5353 h5354 h5355 h8082 h8083 a8338 h8339 h8584 h8829 w8830 w8831 r8832 r8833 r8834 h8835 h8855 h8975 h9020 w9045 w9046 w9047 w9049 w9050 w9052 w9051 w9053 w9055 w9056 w9057 w9059 w9058 w9061 w9062 w9063 w9064 w9065 w9067 w9066 w9068 w9072 w9071 a9073 ⊢) <;> first | omega | ((try simp (disch := omega) only [zb] at u5318 xq2 h5319 xq12 h5332 xq14 a5352 u5353 h5354 h5355 h8082 h8083 a8338 h8339 h8584 h8829 w8830 w8831 r8832 r8833 r8834 h8835 h8855 h8975 h9020 w9045 w9046 w9047 w9049 w9050 w9052 w9051 w9053 w9055 w9056 w9057 w9059 w9058 w9061 w9062 w9063 w9064 w9065 w9067 w9066 w9068 w9072 w9071 a9073 ⊢) <;> omega))⟩
                  · unfold fX9_pair_227
                    unfold fX9_pair_228
                    have w9074 : mm_I s11 q17 ((0 : Int32).toNatClampNeg) = mm_I q2.2 q17 ((0 : Int32).toNatClampNeg) := by rw [← es11]; exact rd_k tq17 tq5 (by decide)
                    have w9075 := (gq2.2.2 _ _ tq17 ((0 : Int32).toNatClampNeg) rfl).1
                    have r9076 := ci_rg c0 tq17 ((0 : Int32).toNatClampNeg) (lo := (-1)) (hi := 3) rfl
                    have r9077 := ci_rg cq2 tq17 ((0 : Int32).toNatClampNeg) (lo := (-1)) (hi := 3) rfl
                    have r9078 := ci_rg cs11 tq17 ((0 : Int32).toNatClampNeg) (lo := (-1)) (hi := 3) rfl
                    refine sw_ite (fun h9079 => ?_) (fun h9079 => ?_)
                    · have w9080 : mm_I s11 p0 0 = mm_I q2.2 p0 0 := by rw [← es11]; exact rd_k t_p0 tq5 (by decide)
                      have w9083 : rdA s11 p0 9 1 = mm_I s11 q17 ((1 : Int32)).toNatClampNeg := rdA_eq eq17
                      have w9082 : rdA s11 p0 9 1 = rdA q2.2 p0 9 1 := by rw [← es11]; exact rdA_k cq2 t_p0 (κ' := 59) rfl tq5 (by decide)
                      have w9084 := rdA_fr (k := 9) (j := 1) gq2 c0 t_p0 (κ' := 59) rfl rfl rfl
                      have w9086 : rdA s11 p0 10 1 = rdA q2.2 p0 10 1 := by rw [← es11]; exact rdA_j (by decide)
                      have w9088 : rdA q2.2 p0 10 1 = mm_I q2.2 q5 ((1 : Int32)).toNatClampNeg := rdA_eq eq5
                      have w9087 := rdA_fr (k := 10) (j := 1) gq2 c0 t_p0 (κ' := 60) rfl rfl rfl
                      have w9090 : rdA s11 p0 10 0 = -1 := by rw [← es11]; exact rdA_self eq5
                      have w9092 : rdA s11 p0 9 0 = mm_I s11 q17 ((0 : Int32)).toNatClampNeg := rdA_eq eq17
                      have w9091 : rdA s11 p0 9 0 = rdA q2.2 p0 9 0 := by rw [← es11]; exact rdA_k cq2 t_p0 (κ' := 59) rfl tq5 (by decide)
                      have w9093 := rdA_fr (k := 9) (j := 0) gq2 c0 t_p0 (κ' := 59) rfl rfl rfl
                      have w9097 : rdA q2.2 p0 10 0 = mm_I q2.2 q5 ((0 : Int32)).toNatClampNeg := rdA_eq eq5
                      have w9096 := rdA_fr (k := 10) (j := 0) gq2 c0 t_p0 (κ' := 60) rfl rfl rfl
                      have a9098 := zi_and p2 8 (by decide)
                      exact sw_some ⟨cs11, fs11, (by (try simp only [zp, zo, zq] at u5318 xq2 h5319 xq12 h5332 xq14 a5352 u5353 h5354 h5355 h8082 h8083 a8338 h8339 h8584 h8829 w9074 w9075 r9076 r9077 r9078 h9079 w9080 w9083 w9082 w9084 w9086 w9088 w9087 w9090 w9092 w9091 w9093 w9097 w9096 a9098 ⊢) <;> (try simp only [zz, Int32.reduceToInt, ne_eq] at u5318 xq2 h5319 xq12 h5332 xq14 a5352 u5353 h5354 h5355 h8082 h8083 a8338 h8339 h8584 h8829 w9074 w9075 r9076 r9077 r9078 h9079 w9080 w9083 w9082 w9084 w9086 w9088 w9087 w9090 w9092 w9091 w9093 w9097 w9096 a9098 ⊢) <;> (try simp (disch := omega) only [zb] at u5318 xq2 h5319 xq12 h5332 xq14 a5352 u5353 h5354 h5355 h8082 h8083 a8338 h8339 h8584 h8829 w9074 w9075 r9076 r9077 r9078 h9079 w9080 w9083 w9082 w9084 w9086 w9088 w9087 w9090 w9092 w9091 w9093 w9097 w9096 a9098 ⊢) <;> first | omega | ((try simp (disch := omega) only [zb] at u5318 xq2 h5319 xq12 h5332 xq14 a5352 u5353 h5354 h5355 h8082 h8083 a8338 h8339 h8584 h8829 w9074 w9075 r9076 r9077 r9078 h9079 w9080 w9083 w9082 w9084 w9086 w9088 w9087 w9090 w9092 w9091 w9093 w9097 w9096 a9098 ⊢) <;> omega))⟩
                    · refine sw_ite (fun h9099 => ?_) (fun h9099 => ?_)
                      · refine sw_ite (fun h9100 => ?_) (fun h9100 => ?_)
                        · have w9101 : mm_I s11 p0 0 = mm_I q2.2 p0 0 := by rw [← es11]; exact rd_k t_p0 tq5 (by decide)
                          have w9104 : rdA s11 p0 9 1 = mm_I s11 q17 ((1 : Int32)).toNatClampNeg := rdA_eq eq17
                          have w9103 : rdA s11 p0 9 1 = rdA q2.2 p0 9 1 := by rw [← es11]; exact rdA_k cq2 t_p0 (κ' := 59) rfl tq5 (by decide)
                          have w9105 := rdA_fr (k := 9) (j := 1) gq2 c0 t_p0 (κ' := 59) rfl rfl rfl
                          have w9107 : rdA s11 p0 10 1 = rdA q2.2 p0 10 1 := by rw [← es11]; exact rdA_j (by decide)
                          have w9109 : rdA q2.2 p0 10 1 = mm_I q2.2 q5 ((1 : Int32)).toNatClampNeg := rdA_eq eq5
                          have w9108 := rdA_fr (k := 10) (j := 1) gq2 c0 t_p0 (κ' := 60) rfl rfl rfl
                          have w9111 : rdA s11 p0 10 0 = -1 := by rw [← es11]; exact rdA_self eq5
                          have w9113 : rdA s11 p0 9 0 = mm_I s11 q17 ((0 : Int32)).toNatClampNeg := rdA_eq eq17
                          have w9112 : rdA s11 p0 9 0 = rdA q2.2 p0 9 0 := by rw [← es11]; exact rdA_k cq2 t_p0 (κ' := 59) rfl tq5 (by decide)
                          have w9114 := rdA_fr (k := 9) (j := 0) gq2 c0 t_p0 (κ' := 59) rfl rfl rfl
                          have w9118 : rdA q2.2 p0 10 0 = mm_I q2.2 q5 ((0 : Int32)).toNatClampNeg := rdA_eq eq5
                          have w9117 := rdA_fr (k := 10) (j := 0) gq2 c0 t_p0 (κ' := 60) rfl rfl rfl
                          have a9119 := zi_and p2 8 (by decide)
                          exact sw_some ⟨cs11, fs11, (by (try simp only [zp, zo, zq] at u5318 xq2 h5319 xq12 h5332 xq14 a5352 u5353 h5354 h5355 h8082 h8083 a8338 h8339 h8584 h8829 w9074 w9075 r9076 r9077 r9078 h9079 h9099 h9100 w9101 w9104 w9103 w9105 w9107 w9109 w9108 w9111 w9113 w9112 w9114 w9118 w9117 a9119 ⊢) <;> (try simp only [zz, Int32.reduceToInt, ne_eq] at u5318 xq2 h5319 xq12 h5332 xq14 a5352 u5353 h5354 h5355 h8082 h8083 a8338 h8339 h8584 h8829 w9074 w9075 r9076 r9077 r9078 h9079 h9099 h9100 w9101 w9104 w9103 w9105 w9107 w9109 w9108 w9111 w9113 w9112 w9114 w9118 w9117 a9119 ⊢) <;> (try simp (disch := omega) only [zb] at u5318 xq2 h5319 xq12 h5332 xq14 a5352 u5353 h5354 h5355 h8082 h8083 a8338 h8339 h8584 h8829 w9074 w9075 r9076 r9077 r9078 h9079 h9099 h9100 w9101 w9104 w9103 w9105 w9107 w9109 w9108 w9111 w9113 w9112 w9114 w9118 w9117 a9119 ⊢) <;> first | omega | ((try simp (disch := omega) only [zb] at u5318 xq2 h5319 xq12 h5332 xq14 a5352 u5353 h5354 h5355 h8082 h8083 a8338 h8339 h8584 h8829 w9074 w9075 r9076 r9077 r9078 h9079 h9099 h9100 w9101 w9104 w9103 w9105 w9107 w9109 w9108 w9111 w9113 w9112 w9114 w9118 w9117 a9119 ⊢) <;> omega))⟩
                        · unfold fX9_pair_250
                          refine sw_ite (fun h9120 => ?_) (fun h9120 => ?_)
                          · unfold fX9_pair_264
                            refine sw_ite (fun h9121 => ?_) (fun h9121 => ?_)
                            · have w9122 : mm_I s11 p0 0 = mm_I q2.2 p0 0 := by rw [← es11]; exact rd_k t_p0 tq5 (by decide)
                              have w9125 : rdA s11 p0 9 1 = mm_I s11 q17 ((1 : Int32)).toNatClampNeg := rdA_eq eq17
                              have w9124 : rdA s11 p0 9 1 = rdA q2.2 p0 9 1 := by rw [← es11]; exact rdA_k cq2 t_p0 (κ' := 59) rfl tq5 (by decide)
                              have w9126 := rdA_fr (k := 9) (j := 1) gq2 c0 t_p0 (κ' := 59) rfl rfl rfl
                              have w9128 : rdA s11 p0 10 1 = rdA q2.2 p0 10 1 := by rw [← es11]; exact rdA_j (by decide)
                              have w9130 : rdA q2.2 p0 10 1 = mm_I q2.2 q5 ((1 : Int32)).toNatClampNeg := rdA_eq eq5
                              have w9129 := rdA_fr (k := 10) (j := 1) gq2 c0 t_p0 (κ' := 60) rfl rfl rfl
                              have w9132 : rdA s11 p0 10 0 = -1 := by rw [← es11]; exact rdA_self eq5
                              have w9134 : rdA s11 p0 9 0 = mm_I s11 q17 ((0 : Int32)).toNatClampNeg := rdA_eq eq17
                              have w9133 : rdA s11 p0 9 0 = rdA q2.2 p0 9 0 := by rw [← es11]; exact rdA_k cq2 t_p0 (κ' := 59) rfl tq5 (by decide)
                              have w9135 := rdA_fr (k := 9) (j := 0) gq2 c0 t_p0 (κ' := 59) rfl rfl rfl
                              have w9139 : rdA q2.2 p0 10 0 = mm_I q2.2 q5 ((0 : Int32)).toNatClampNeg := rdA_eq eq5
                              have w9138 := rdA_fr (k := 10) (j := 0) gq2 c0 t_p0 (κ' := 60) rfl rfl rfl
                              have a9140 := zi_and p2 8 (by decide)
                              exact sw_some ⟨cs11, fs11, (by (try simp only [zp, zo, zq] at u5318 xq2 h5319 xq12 h5332 xq14 a5352 u5353 h5354 h5355 h8082 h8083 a8338 h8339 h8584 h8829 w9074 w9075 r9076 r9077 r9078 h9079 h9099 h9100 h9120 h9121 w9122 w9125 w9124 w9126 w9128 w9130 w9129 w9132 w9134 w9133 w9135 w9139 w9138 a9140 ⊢) <;> (try simp only [zz, Int32.reduceToInt, ne_eq] at u5318 xq2 h5319 xq12 h5332 xq14 a5352 u5353 h5354 h5355 h8082 h8083 a8338 h8339 h8584 h8829 w9074 w9075 r9076 r9077 r9078 h9079 h9099 h9100 h9120 h9121 w9122 w9125 w9124 w9126 w9128 w9130 w9129 w9132 w9134 w9133 w9135 w9139 w9138 a9140 ⊢) <;> (try simp (disch := omega) only [zb] at u5318 xq2 h5319 xq12 h5332 xq14 a5352 u5353 h5354 h5355 h8082 h8083 a8338 h8339 h8584 h8829 w9074 w9075 r9076 r9077 r9078 h9079 h9099 h9100 h9120 h9121 w9122 w9125 w9124 w9126 w9128 w9130 w9129 w9132 w9134 w9133 w9135 w9139 w9138 a9140 ⊢) <;> first | omega | ((try simp (disch := omega) only [zb] at u5318 xq2 h5319 xq12 h5332 xq14 a5352 u5353 h5354 h5355 h8082 h8083 a8338 h8339 h8584 h8829 w9074 w9075 r9076 r9077 r9078 h9079 h9099 h9100 h9120 h9121 w9122 w9125 w9124 w9126 w9128 w9130 w9129 w9132 w9134 w9133 w9135 w9139 w9138 a9140 ⊢) <;> omega))⟩
                            · refine sw_sh (ci_sh cs11 t_p0 rfl) ?_
                              refine sw_on (sX9_put cs11 t_p0 (by (try simp only [zp, zo, zq] at u5318 xq2 h5319 xq12 h5332 xq14 a5352 u5353 h5354 h5355 h8082 h8083 a8338 h8339 h8584 h8829 w9074 w9075 r9076 r9077 r9078 h9079 h9099 h9100 h9120 h9121 ⊢) <;> (try simp only [zz, Int32.reduceToInt, ne_eq] at u5318 xq2 h5319 xq12 h5332 xq14 a5352 u5353 h5354 h5355 h8082 h8083 a8338 h8339 h8584 h8829 w9074 w9075 r9076 r9077 r9078 h9079 h9099 h9100 h9120 h9121 ⊢) <;> (try simp (disch := omega) only [zb] at u5318 xq2 h5319 xq12 h5332 xq14 a5352 u5353 h5354 h5355 h8082 h8083 a8338 h8339 h8584 h8829 w9074 w9075 r9076 r9077 r9078 h9079 h9099 h9100 h9120 h9121 ⊢) <;> first | omega | ((try simp (disch := omega) only [zb] at u5318 xq2 h5319 xq12 h5332 xq14 a5352 u5353 h5354 h5355 h8082 h8083 a8338 h8339 h8584 h8829 w9074 w9075 r9076 r9077 r9078 h9079 h9099 h9100 h9120 h9121 ⊢) <;> omega)) ) ?_
                              intro q28 hqq28
                              obtain ⟨cq28, gq28, xq28⟩ := hqq28
                              have fq28 := fr_trans fs11 gq28 rfl
                              have w9141 := (gq28.2.2 _ _ t_p0 0 rfl).1
                              have w9142 : mm_I s11 p0 0 = mm_I q2.2 p0 0 := by rw [← es11]; exact rd_k t_p0 tq5 (by decide)
                              have w9144 := rdA_fr (k := 9) (j := 1) gq28 cs11 t_p0 (κ' := 59) rfl rfl rfl
                              have w9146 : rdA s11 p0 9 1 = mm_I s11 q17 ((1 : Int32)).toNatClampNeg := rdA_eq eq17
                              have w9145 : rdA s11 p0 9 1 = rdA q2.2 p0 9 1 := by rw [← es11]; exact rdA_k cq2 t_p0 (κ' := 59) rfl tq5 (by decide)
                              have w9147 := rdA_fr (k := 9) (j := 1) gq2 c0 t_p0 (κ' := 59) rfl rfl rfl
                              have w9149 := rdA_fr (k := 10) (j := 1) gq28 cs11 t_p0 (κ' := 60) rfl rfl rfl
                              have w9150 : rdA s11 p0 10 1 = rdA q2.2 p0 10 1 := by rw [← es11]; exact rdA_j (by decide)
                              have w9152 : rdA q2.2 p0 10 1 = mm_I q2.2 q5 ((1 : Int32)).toNatClampNeg := rdA_eq eq5
                              have w9151 := rdA_fr (k := 10) (j := 1) gq2 c0 t_p0 (κ' := 60) rfl rfl rfl
                              have w9154 := rdA_fr (k := 10) (j := 0) gq28 cs11 t_p0 (κ' := 60) rfl rfl rfl
                              have w9155 : rdA s11 p0 10 0 = -1 := by rw [← es11]; exact rdA_self eq5
                              have w9156 := rdA_fr (k := 9) (j := 0) gq28 cs11 t_p0 (κ' := 59) rfl rfl rfl
                              have w9158 : rdA s11 p0 9 0 = mm_I s11 q17 ((0 : Int32)).toNatClampNeg := rdA_eq eq17
                              have w9157 : rdA s11 p0 9 0 = rdA q2.2 p0 9 0 := by rw [← es11]; exact rdA_k cq2 t_p0 (κ' := 59) rfl tq5 (by decide)
                              have w9159 := rdA_fr (k := 9) (j := 0) gq2 c0 t_p0 (κ' := 59) rfl rfl rfl
                              have w9163 : rdA q2.2 p0 10 0 = mm_I q2.2 q5 ((0 : Int32)).toNatClampNeg := rdA_eq eq5
                              have w9162 := rdA_fr (k := 10) (j := 0) gq2 c0 t_p0 (κ' := 60) rfl rfl rfl
                              have a9164 := zi_and p2 8 (by decide)
                              exact sw_some ⟨cq28, fq28, (by (try simp only [zp, zo, zq] at u5318 xq2 h5319 xq12 h5332 xq14 a5352 u5353 h5354 h5355 h8082 h8083 a8338 h8339 h8584 h8829 w9074 w9075 r9076 r9077 r9078 h9079 h9099 h9100 h9120 h9121 w9141 w9142 w9144 w9146 w9145 w9147 w9149 w9150 w9152 w9151 w9154 w9155 w9156 w9158 w9157 w9159 w9163 w9162 a9164 ⊢) <;> (try simp only [zz, Int32.reduceToInt, ne_eq] at u5318 xq2 h5319 xq12 h5332 xq14 a5352 u5353 h5354 h5355 h8082 h8083 a8338 h8339 h8584 h8829 w9074 w9075 r9076 r9077 r9078 h9079 h9099 h9100 h9120 h9121 w9141 w9142 w9144 w9146 w9145 w9147 w9149 w9150 w9152 w9151 w9154 w9155 w9156 w9158 w9157 w9159 w9163 w9162 a9164 ⊢) <;> (try simp (disch := omega) only [zb] at u5318 xq2 h5319 xq12 h5332 xq14 a5352 u5353 h5354 h5355 h8082 h8083 a8338 h8339 h8584 h8829 w9074 w9075 r9076 r9077 r9078 h9079 h9099 h9100 h9120 h9121 w9141 w9142 w9144 w9146 w9145 w9147 w9149 w9150 w9152 w9151 w9154 w9155 w9156 w9158 w9157 w9159 w9163 w9162 a9164 ⊢) <;> first | omega | ((try simp (disch := omega) only [zb] at u5318 xq2 h5319 xq12 h5332 xq14 a5352 u5353 h5354 h5355 h8082 h8083 a8338 h8339 h8584 h8829 w9074 w9075 r9076 r9077 r9078 h9079 h9099 h9100 h9120 h9121 w9141 w9142 w9144 w9146 w9145 w9147 w9149 w9150 w9152 w9151 w9154 w9155 w9156 w9158 w9157 w9159 w9163 w9162 a9164 ⊢) <;> omega))⟩
                          · refine sw_sh (ci_sh cs11 t_p0 rfl) ?_
                            refine sw_on (sX9_put cs11 t_p0 (by (try simp only [zp, zo, zq] at u5318 xq2 h5319 xq12 h5332 xq14 a5352 u5353 h5354 h5355 h8082 h8083 a8338 h8339 h8584 h8829 w9074 w9075 r9076 r9077 r9078 h9079 h9099 h9100 h9120 ⊢) <;> (try simp only [zz, Int32.reduceToInt, ne_eq] at u5318 xq2 h5319 xq12 h5332 xq14 a5352 u5353 h5354 h5355 h8082 h8083 a8338 h8339 h8584 h8829 w9074 w9075 r9076 r9077 r9078 h9079 h9099 h9100 h9120 ⊢) <;> (try simp (disch := omega) only [zb] at u5318 xq2 h5319 xq12 h5332 xq14 a5352 u5353 h5354 h5355 h8082 h8083 a8338 h8339 h8584 h8829 w9074 w9075 r9076 r9077 r9078 h9079 h9099 h9100 h9120 ⊢) <;> first | omega | ((try simp (disch := omega) only [zb] at u5318 xq2 h5319 xq12 h5332 xq14 a5352 u5353 h5354 h5355 h8082 h8083 a8338 h8339 h8584 h8829 w9074 w9075 r9076 r9077 r9078 h9079 h9099 h9100 h9120 ⊢) <;> omega)) ) ?_
                            intro q30 hqq30
                            obtain ⟨cq30, gq30, xq30⟩ := hqq30
                            have fq30 := fr_trans fs11 gq30 rfl
                            unfold fX9_pair_264
                            refine sw_ite (fun h9165 => ?_) (fun h9165 => ?_)
                            · have w9166 := (gq30.2.2 _ _ t_p0 0 rfl).1
                              have w9167 : mm_I s11 p0 0 = mm_I q2.2 p0 0 := by rw [← es11]; exact rd_k t_p0 tq5 (by decide)
                              have w9169 := rdA_fr (k := 9) (j := 1) gq30 cs11 t_p0 (κ' := 59) rfl rfl rfl
                              have w9171 : rdA s11 p0 9 1 = mm_I s11 q17 ((1 : Int32)).toNatClampNeg := rdA_eq eq17
                              have w9170 : rdA s11 p0 9 1 = rdA q2.2 p0 9 1 := by rw [← es11]; exact rdA_k cq2 t_p0 (κ' := 59) rfl tq5 (by decide)
                              have w9172 := rdA_fr (k := 9) (j := 1) gq2 c0 t_p0 (κ' := 59) rfl rfl rfl
                              have w9174 := rdA_fr (k := 10) (j := 1) gq30 cs11 t_p0 (κ' := 60) rfl rfl rfl
                              have w9175 : rdA s11 p0 10 1 = rdA q2.2 p0 10 1 := by rw [← es11]; exact rdA_j (by decide)
                              have w9177 : rdA q2.2 p0 10 1 = mm_I q2.2 q5 ((1 : Int32)).toNatClampNeg := rdA_eq eq5
                              have w9176 := rdA_fr (k := 10) (j := 1) gq2 c0 t_p0 (κ' := 60) rfl rfl rfl
                              have w9179 := rdA_fr (k := 10) (j := 0) gq30 cs11 t_p0 (κ' := 60) rfl rfl rfl
                              have w9180 : rdA s11 p0 10 0 = -1 := by rw [← es11]; exact rdA_self eq5
                              have w9181 := rdA_fr (k := 9) (j := 0) gq30 cs11 t_p0 (κ' := 59) rfl rfl rfl
                              have w9183 : rdA s11 p0 9 0 = mm_I s11 q17 ((0 : Int32)).toNatClampNeg := rdA_eq eq17
                              have w9182 : rdA s11 p0 9 0 = rdA q2.2 p0 9 0 := by rw [← es11]; exact rdA_k cq2 t_p0 (κ' := 59) rfl tq5 (by decide)
                              have w9184 := rdA_fr (k := 9) (j := 0) gq2 c0 t_p0 (κ' := 59) rfl rfl rfl
                              have w9188 : rdA q2.2 p0 10 0 = mm_I q2.2 q5 ((0 : Int32)).toNatClampNeg := rdA_eq eq5
                              have w9187 := rdA_fr (k := 10) (j := 0) gq2 c0 t_p0 (κ' := 60) rfl rfl rfl
                              have a9189 := zi_and p2 8 (by decide)
                              exact sw_some ⟨cq30, fq30, (by (try simp only [zp, zo, zq] at u5318 xq2 h5319 xq12 h5332 xq14 a5352 u5353 h5354 h5355 h8082 h8083 a8338 h8339 h8584 h8829 w9074 w9075 r9076 r9077 r9078 h9079 h9099 h9100 h9120 h9165 w9166 w9167 w9169 w9171 w9170 w9172 w9174 w9175 w9177 w9176 w9179 w9180 w9181 w9183 w9182 w9184 w9188 w9187 a9189 ⊢) <;> (try simp only [zz, Int32.reduceToInt, ne_eq] at u5318 xq2 h5319 xq12 h5332 xq14 a5352 u5353 h5354 h5355 h8082 h8083 a8338 h8339 h8584 h8829 w9074 w9075 r9076 r9077 r9078 h9079 h9099 h9100 h9120 h9165 w9166 w9167 w9169 w9171 w9170 w9172 w9174 w9175 w9177 w9176 w9179 w9180 w9181 w9183 w9182 w9184 w9188 w9187 a9189 ⊢) <;> (try simp (disch := omega) only [zb] at u5318 xq2 h5319 xq12 h5332 xq14 a5352 u5353 h5354 h5355 h8082 h8083 a8338 h8339 h8584 h8829 w9074 w9075 r9076 r9077 r9078 h9079 h9099 h9100 h9120 h9165 w9166 w9167 w9169 w9171 w9170 w9172 w9174 w9175 w9177 w9176 w9179 w9180 w9181 w9183 w9182 w9184 w9188 w9187 a9189 ⊢) <;> first | omega | ((try simp (disch := omega) only [zb] at u5318 xq2 h5319 xq12 h5332 xq14 a5352 u5353 h5354 h5355 h8082 h8083 a8338 h8339 h8584 h8829 w9074 w9075 r9076 r9077 r9078 h9079 h9099 h9100 h9120 h9165 w9166 w9167 w9169 w9171 w9170 w9172 w9174 w9175 w9177 w9176 w9179 w9180 w9181 w9183 w9182 w9184 w9188 w9187 a9189 ⊢) <;> omega))⟩
                            · refine sw_sh (ci_sh cq30 t_p0 rfl) ?_
                              refine sw_on (sX9_put cq30 t_p0 (by (try simp only [zp, zo, zq] at u5318 xq2 h5319 xq12 h5332 xq14 a5352 u5353 h5354 h5355 h8082 h8083 a8338 h8339 h8584 h8829 w9074 w9075 r9076 r9077 r9078 h9079 h9099 h9100 h9120 h9165 ⊢) <;> (try simp only [zz, Int32.reduceToInt, ne_eq] at u5318 xq2 h5319 xq12 h5332 xq14 a5352 u5353 h5354 h5355 h8082 h8083 a8338 h8339 h8584 h8829 w9074 w9075 r9076 r9077 r9078 h9079 h9099 h9100 h9120 h9165 ⊢) <;> (try simp (disch := omega) only [zb] at u5318 xq2 h5319 xq12 h5332 xq14 a5352 u5353 h5354 h5355 h8082 h8083 a8338 h8339 h8584 h8829 w9074 w9075 r9076 r9077 r9078 h9079 h9099 h9100 h9120 h9165 ⊢) <;> first | omega | ((try simp (disch := omega) only [zb] at u5318 xq2 h5319 xq12 h5332 xq14 a5352 u5353 h5354 h5355 h8082 h8083 a8338 h8339 h8584 h8829 w9074 w9075 r9076 r9077 r9078 h9079 h9099 h9100 h9120 h9165 ⊢) <;> omega)) ) ?_
                              intro q28 hqq28
                              obtain ⟨cq28, gq28, xq28⟩ := hqq28
                              have fq28 := fr_trans fq30 gq28 rfl
                              have w9190 := (gq28.2.2 _ _ t_p0 0 rfl).1
                              have w9191 := (gq30.2.2 _ _ t_p0 0 rfl).1
                              have w9192 : mm_I s11 p0 0 = mm_I q2.2 p0 0 := by rw [← es11]; exact rd_k t_p0 tq5 (by decide)
                              have w9194 := rdA_fr (k := 9) (j := 1) gq28 cq30 t_p0 (κ' := 59) rfl rfl rfl
                              have w9195 := rdA_fr (k := 9) (j := 1) gq30 cs11 t_p0 (κ' := 59) rfl rfl rfl
                              have w9197 : rdA s11 p0 9 1 = mm_I s11 q17 ((1 : Int32)).toNatClampNeg := rdA_eq eq17
                              have w9196 : rdA s11 p0 9 1 = rdA q2.2 p0 9 1 := by rw [← es11]; exact rdA_k cq2 t_p0 (κ' := 59) rfl tq5 (by decide)
                              have w9198 := rdA_fr (k := 9) (j := 1) gq2 c0 t_p0 (κ' := 59) rfl rfl rfl
                              have w9200 := rdA_fr (k := 10) (j := 1) gq28 cq30 t_p0 (κ' := 60) rfl rfl rfl
                              have w9201 := rdA_fr (k := 10) (j := 1) gq30 cs11 t_p0 (κ' := 60) rfl rfl rfl
                              have w9202 : rdA s11 p0 10 1 = rdA q2.2 p0 10 1 := by rw [← es11]; exact rdA_j (by decide)
                              have w9204 : rdA q2.2 p0 10 1 = mm_I q2.2 q5 ((1 : Int32)).toNatClampNeg := rdA_eq eq5
                              have w9203 := rdA_fr (k := 10) (j := 1) gq2 c0 t_p0 (κ' := 60) rfl rfl rfl
                              have w9206 := rdA_fr (k := 10) (j := 0) gq28 cq30 t_p0 (κ' := 60) rfl rfl rfl
                              have w9207 := rdA_fr (k := 10) (j := 0) gq30 cs11 t_p0 (κ' := 60) rfl rfl rfl
                              have w9208 : rdA s11 p0 10 0 = -1 := by rw [← es11]; exact rdA_self eq5
                              have w9209 := rdA_fr (k := 9) (j := 0) gq28 cq30 t_p0 (κ' := 59) rfl rfl rfl
                              have w9210 := rdA_fr (k := 9) (j := 0) gq30 cs11 t_p0 (κ' := 59) rfl rfl rfl
                              have w9212 : rdA s11 p0 9 0 = mm_I s11 q17 ((0 : Int32)).toNatClampNeg := rdA_eq eq17
                              have w9211 : rdA s11 p0 9 0 = rdA q2.2 p0 9 0 := by rw [← es11]; exact rdA_k cq2 t_p0 (κ' := 59) rfl tq5 (by decide)
                              have w9213 := rdA_fr (k := 9) (j := 0) gq2 c0 t_p0 (κ' := 59) rfl rfl rfl
                              have w9217 : rdA q2.2 p0 10 0 = mm_I q2.2 q5 ((0 : Int32)).toNatClampNeg := rdA_eq eq5
                              have w9216 := rdA_fr (k := 10) (j := 0) gq2 c0 t_p0 (κ' := 60) rfl rfl rfl
                              have a9218 := zi_and p2 8 (by decide)
                              exact sw_some ⟨cq28, fq28, (by (try simp only [zp, zo, zq] at u5318 xq2 h5319 xq12 h5332 xq14 a5352 u5353 h5354 h5355 h8082 h8083 a8338 h8339 h8584 h8829 w9074 w9075 r9076 r9077 r9078 h9079 h9099 h9100 h9120 h9165 w9190 w9191 w9192 w9194 w9195 w9197 w9196 w9198 w9200 w9201 w9202 w9204 w9203 w9206 w9207 w9208 w9209 w9210 w9212 w9211 w9213 w9217 w9216 a9218 ⊢) <;> (try simp only [zz, Int32.reduceToInt, ne_eq] at u5318 xq2 h5319 xq12 h5332 xq14 a5352 u5353 h5354 h5355 h8082 h8083 a8338 h8339 h8584 h8829 w9074 w9075 r9076 r9077 r9078 h9079 h9099 h9100 h9120 h9165 w9190 w9191 w9192 w9194 w9195 w9197 w9196 w9198 w9200 w9201 w9202 w9204 w9203 w9206 w9207 w9208 w9209 w9210 w9212 w9211 w9213 w9217 w9216 a9218 ⊢) <;> (try simp (disch := omega) only [zb] at u5318 xq2 h5319 xq12 h5332 xq14 a5352 u5353 h5354 h5355 h8082 h8083 a8338 h8339 h8584 h8829 w9074 w9075 r9076 r9077 r9078 h9079 h9099 h9100 h9120 h9165 w9190 w9191 w9192 w9194 w9195 w9197 w9196 w9198 w9200 w9201 w9202 w9204 w9203 w9206 w9207 w9208 w9209 w9210 w9212 w9211 w9213 w9217 w9216 a9218 ⊢) <;> first | omega | ((try simp (disch := omega) only [zb] at u5318 xq2 h5319 xq12 h5332 xq14 a5352 u5353 h5354 h5355 h8082 h8083 a8338 h8339 h8584 h8829 w9074 w9075 r9076 r9077 r9078 h9079 h9099 h9100 h9120 h9165 w9190 w9191 w9192 w9194 w9195 w9197 w9196 w9198 w9200 w9201 w9202 w9204 w9203 w9206 w9207 w9208 w9209 w9210 w9212 w9211 w9213 w9217 w9216 a9218 ⊢) <;> omega))⟩
                      · unfold fX9_pair_250
                        refine sw_ite (fun h9219 => ?_) (fun h9219 => ?_)
                        · unfold fX9_pair_264
                          refine sw_ite (fun h9220 => ?_) (fun h9220 => ?_)
                          · have w9221 : mm_I s11 p0 0 = mm_I q2.2 p0 0 := by rw [← es11]; exact rd_k t_p0 tq5 (by decide)
                            have w9224 : rdA s11 p0 9 1 = mm_I s11 q17 ((1 : Int32)).toNatClampNeg := rdA_eq eq17
                            have w9223 : rdA s11 p0 9 1 = rdA q2.2 p0 9 1 := by rw [← es11]; exact rdA_k cq2 t_p0 (κ' := 59) rfl tq5 (by decide)
                            have w9225 := rdA_fr (k := 9) (j := 1) gq2 c0 t_p0 (κ' := 59) rfl rfl rfl
                            have w9227 : rdA s11 p0 10 1 = rdA q2.2 p0 10 1 := by rw [← es11]; exact rdA_j (by decide)
                            have w9229 : rdA q2.2 p0 10 1 = mm_I q2.2 q5 ((1 : Int32)).toNatClampNeg := rdA_eq eq5
                            have w9228 := rdA_fr (k := 10) (j := 1) gq2 c0 t_p0 (κ' := 60) rfl rfl rfl
                            have w9231 : rdA s11 p0 10 0 = -1 := by rw [← es11]; exact rdA_self eq5
                            have w9233 : rdA s11 p0 9 0 = mm_I s11 q17 ((0 : Int32)).toNatClampNeg := rdA_eq eq17
                            have w9232 : rdA s11 p0 9 0 = rdA q2.2 p0 9 0 := by rw [← es11]; exact rdA_k cq2 t_p0 (κ' := 59) rfl tq5 (by decide)
                            have w9234 := rdA_fr (k := 9) (j := 0) gq2 c0 t_p0 (κ' := 59) rfl rfl rfl
                            have w9238 : rdA q2.2 p0 10 0 = mm_I q2.2 q5 ((0 : Int32)).toNatClampNeg := rdA_eq eq5
                            have w9237 := rdA_fr (k := 10) (j := 0) gq2 c0 t_p0 (κ' := 60) rfl rfl rfl
                            have a9239 := zi_and p2 8 (by decide)
                            exact sw_some ⟨cs11, fs11, (by (try simp only [zp, zo, zq] at u5318 xq2 h5319 xq12 h5332 xq14 a5352 u5353 h5354 h5355 h8082 h8083 a8338 h8339 h8584 h8829 w9074 w9075 r9076 r9077 r9078 h9079 h9099 h9219 h9220 w9221 w9224 w9223 w9225 w9227 w9229 w9228 w9231 w9233 w9232 w9234 w9238 w9237 a9239 ⊢) <;> (try simp only [zz, Int32.reduceToInt, ne_eq] at u5318 xq2 h5319 xq12 h5332 xq14 a5352 u5353 h5354 h5355 h8082 h8083 a8338 h8339 h8584 h8829 w9074 w9075 r9076 r9077 r9078 h9079 h9099 h9219 h9220 w9221 w9224 w9223 w9225 w9227 w9229 w9228 w9231 w9233 w9232 w9234 w9238 w9237 a9239 ⊢) <;> (try simp (disch := omega) only [zb] at u5318 xq2 h5319 xq12 h5332 xq14 a5352 u5353 h5354 h5355 h8082 h8083 a8338 h8339 h8584 h8829 w9074 w9075 r9076 r9077 r9078 h9079 h9099 h9219 h9220 w9221 w9224 w9223 w9225 w9227 w9229 w9228 w9231 w9233 w9232 w9234 w9238 w9237 a9239 ⊢) <;> first | omega | ((try simp (disch := omega) only [zb] at u5318 xq2 h5319 xq12 h5332 xq14 a5352 u5353 h5354 h5355 h8082 h8083 a8338 h8339 h8584 h8829 w9074 w9075 r9076 r9077 r9078 h9079 h9099 h9219 h9220 w9221 w9224 w9223 w9225 w9227 w9229 w9228 w9231 w9233 w9232 w9234 w9238 w9237 a9239 ⊢) <;> omega))⟩
                          · refine sw_sh (ci_sh cs11 t_p0 rfl) ?_
                            refine sw_on (sX9_put cs11 t_p0 (by (try simp only [zp, zo, zq] at u5318 xq2 h5319 xq12 h5332 xq14 a5352 u5353 h5354 h5355 h8082 h8083 a8338 h8339 h8584 h8829 w9074 w9075 r9076 r9077 r9078 h9079 h9099 h9219 h9220 ⊢) <;> (try simp only [zz, Int32.reduceToInt, ne_eq] at u5318 xq2 h5319 xq12 h5332 xq14 a5352 u5353 h5354 h5355 h8082 h8083 a8338 h8339 h8584 h8829 w9074 w9075 r9076 r9077 r9078 h9079 h9099 h9219 h9220 ⊢) <;> (try simp (disch := omega) only [zb] at u5318 xq2 h5319 xq12 h5332 xq14 a5352 u5353 h5354 h5355 h8082 h8083 a8338 h8339 h8584 h8829 w9074 w9075 r9076 r9077 r9078 h9079 h9099 h9219 h9220 ⊢) <;> first | omega | ((try simp (disch := omega) only [zb] at u5318 xq2 h5319 xq12 h5332 xq14 a5352 u5353 h5354 h5355 h8082 h8083 a8338 h8339 h8584 h8829 w9074 w9075 r9076 r9077 r9078 h9079 h9099 h9219 h9220 ⊢) <;> omega)) ) ?_
                            intro q28 hqq28
                            obtain ⟨cq28, gq28, xq28⟩ := hqq28
                            have fq28 := fr_trans fs11 gq28 rfl
                            have w9240 := (gq28.2.2 _ _ t_p0 0 rfl).1
                            have w9241 : mm_I s11 p0 0 = mm_I q2.2 p0 0 := by rw [← es11]; exact rd_k t_p0 tq5 (by decide)
                            have w9243 := rdA_fr (k := 9) (j := 1) gq28 cs11 t_p0 (κ' := 59) rfl rfl rfl
                            have w9245 : rdA s11 p0 9 1 = mm_I s11 q17 ((1 : Int32)).toNatClampNeg := rdA_eq eq17
                            have w9244 : rdA s11 p0 9 1 = rdA q2.2 p0 9 1 := by rw [← es11]; exact rdA_k cq2 t_p0 (κ' := 59) rfl tq5 (by decide)
                            have w9246 := rdA_fr (k := 9) (j := 1) gq2 c0 t_p0 (κ' := 59) rfl rfl rfl
                            have w9248 := rdA_fr (k := 10) (j := 1) gq28 cs11 t_p0 (κ' := 60) rfl rfl rfl
                            have w9249 : rdA s11 p0 10 1 = rdA q2.2 p0 10 1 := by rw [← es11]; exact rdA_j (by decide)
                            have w9251 : rdA q2.2 p0 10 1 = mm_I q2.2 q5 ((1 : Int32)).toNatClampNeg := rdA_eq eq5
                            have w9250 := rdA_fr (k := 10) (j := 1) gq2 c0 t_p0 (κ' := 60) rfl rfl rfl
                            have w9253 := rdA_fr (k := 10) (j := 0) gq28 cs11 t_p0 (κ' := 60) rfl rfl rfl
                            have w9254 : rdA s11 p0 10 0 = -1 := by rw [← es11]; exact rdA_self eq5
                            have w9255 := rdA_fr (k := 9) (j := 0) gq28 cs11 t_p0 (κ' := 59) rfl rfl rfl
                            have w9257 : rdA s11 p0 9 0 = mm_I s11 q17 ((0 : Int32)).toNatClampNeg := rdA_eq eq17
                            have w9256 : rdA s11 p0 9 0 = rdA q2.2 p0 9 0 := by rw [← es11]; exact rdA_k cq2 t_p0 (κ' := 59) rfl tq5 (by decide)
                            have w9258 := rdA_fr (k := 9) (j := 0) gq2 c0 t_p0 (κ' := 59) rfl rfl rfl
                            have w9262 : rdA q2.2 p0 10 0 = mm_I q2.2 q5 ((0 : Int32)).toNatClampNeg := rdA_eq eq5
                            have w9261 := rdA_fr (k := 10) (j := 0) gq2 c0 t_p0 (κ' := 60) rfl rfl rfl
                            have a9263 := zi_and p2 8 (by decide)
                            exact sw_some ⟨cq28, fq28, (by (try simp only [zp, zo, zq] at u5318 xq2 h5319 xq12 h5332 xq14 a5352 u5353 h5354 h5355 h8082 h8083 a8338 h8339 h8584 h8829 w9074 w9075 r9076 r9077 r9078 h9079 h9099 h9219 h9220 w9240 w9241 w9243 w9245 w9244 w9246 w9248 w9249 w9251 w9250 w9253 w9254 w9255 w9257 w9256 w9258 w9262 w9261 a9263 ⊢) <;> (try simp only [zz, Int32.reduceToInt, ne_eq] at u5318 xq2 h5319 xq12 h5332 xq14 a5352 u5353 h5354 h5355 h8082 h8083 a8338 h8339 h8584 h8829 w9074 w9075 r9076 r9077 r9078 h9079 h9099 h9219 h9220 w9240 w9241 w9243 w9245 w9244 w9246 w9248 w9249 w9251 w9250 w9253 w9254 w9255 w9257 w9256 w9258 w9262 w9261 a9263 ⊢) <;> (try simp (disch := omega) only [zb] at u5318 xq2 h5319 xq12 h5332 xq14 a5352 u5353 h5354 h5355 h8082 h8083 a8338 h8339 h8584 h8829 w9074 w9075 r9076 r9077 r9078 h9079 h9099 h9219 h9220 w9240 w9241 w9243 w9245 w9244 w9246 w9248 w9249 w9251 w9250 w9253 w9254 w9255 w9257 w9256 w9258 w9262 w9261 a9263 ⊢) <;> first | omega | ((try simp (disch := omega) only [zb] at u5318 xq2 h5319 xq12 h5332 xq14 a5352 u5353 h5354 h5355 h8082 h8083 a8338 h8339 h8584 h8829 w9074 w9075 r9076 r9077 r9078 h9079 h9099 h9219 h9220 w9240 w9241 w9243 w9245 w9244 w9246 w9248 w9249 w9251 w9250 w9253 w9254 w9255 w9257 w9256 w9258 w9262 w9261 a9263 ⊢) <;> omega))⟩
                        · refine sw_sh (ci_sh cs11 t_p0 rfl) ?_
                          refine sw_on (sX9_put cs11 t_p0 (by (try simp only [zp, zo, zq] at u5318 xq2 h5319 xq12 h5332 xq14 a5352 u5353 h5354 h5355 h8082 h8083 a8338 h8339 h8584 h8829 w9074 w9075 r9076 r9077 r9078 h9079 h9099 h9219 ⊢) <;> (try simp only [zz, Int32.reduceToInt, ne_eq] at u5318 xq2 h5319 xq12 h5332 xq14 a5352 u5353 h5354 h5355 h8082 h8083 a8338 h8339 h8584 h8829 w9074 w9075 r9076 r9077 r9078 h9079 h9099 h9219 ⊢) <;> (try simp (disch := omega) only [zb] at u5318 xq2 h5319 xq12 h5332 xq14 a5352 u5353 h5354 h5355 h8082 h8083 a8338 h8339 h8584 h8829 w9074 w9075 r9076 r9077 r9078 h9079 h9099 h9219 ⊢) <;> first | omega | ((try simp (disch := omega) only [zb] at u5318 xq2 h5319 xq12 h5332 xq14 a5352 u5353 h5354 h5355 h8082 h8083 a8338 h8339 h8584 h8829 w9074 w9075 r9076 r9077 r9078 h9079 h9099 h9219 ⊢) <;> omega)) ) ?_
                          intro q30 hqq30
                          obtain ⟨cq30, gq30, xq30⟩ := hqq30
                          have fq30 := fr_trans fs11 gq30 rfl
                          unfold fX9_pair_264
                          refine sw_ite (fun h9264 => ?_) (fun h9264 => ?_)
                          · have w9265 := (gq30.2.2 _ _ t_p0 0 rfl).1
                            have w9266 : mm_I s11 p0 0 = mm_I q2.2 p0 0 := by rw [← es11]; exact rd_k t_p0 tq5 (by decide)
                            have w9268 := rdA_fr (k := 9) (j := 1) gq30 cs11 t_p0 (κ' := 59) rfl rfl rfl
                            have w9270 : rdA s11 p0 9 1 = mm_I s11 q17 ((1 : Int32)).toNatClampNeg := rdA_eq eq17
                            have w9269 : rdA s11 p0 9 1 = rdA q2.2 p0 9 1 := by rw [← es11]; exact rdA_k cq2 t_p0 (κ' := 59) rfl tq5 (by decide)
                            have w9271 := rdA_fr (k := 9) (j := 1) gq2 c0 t_p0 (κ' := 59) rfl rfl rfl
                            have w9273 := rdA_fr (k := 10) (j := 1) gq30 cs11 t_p0 (κ' := 60) rfl rfl rfl
                            have w9274 : rdA s11 p0 10 1 = rdA q2.2 p0 10 1 := by rw [← es11]; exact rdA_j (by decide)
                            have w9276 : rdA q2.2 p0 10 1 = mm_I q2.2 q5 ((1 : Int32)).toNatClampNeg := rdA_eq eq5
                            have w9275 := rdA_fr (k := 10) (j := 1) gq2 c0 t_p0 (κ' := 60) rfl rfl rfl
                            have w9278 := rdA_fr (k := 10) (j := 0) gq30 cs11 t_p0 (κ' := 60) rfl rfl rfl
                            have w9279 : rdA s11 p0 10 0 = -1 := by rw [← es11]; exact rdA_self eq5
                            have w9280 := rdA_fr (k := 9) (j := 0) gq30 cs11 t_p0 (κ' := 59) rfl rfl rfl
                            have w9282 : rdA s11 p0 9 0 = mm_I s11 q17 ((0 : Int32)).toNatClampNeg := rdA_eq eq17
                            have w9281 : rdA s11 p0 9 0 = rdA q2.2 p0 9 0 := by rw [← es11]; exact rdA_k cq2 t_p0 (κ' := 59) rfl tq5 (by decide)
                            have w9283 := rdA_fr (k := 9) (j := 0) gq2 c0 t_p0 (κ' := 59) rfl rfl rfl
                            have w9287 : rdA q2.2 p0 10 0 = mm_I q2.2 q5 ((0 : Int32)).toNatClampNeg := rdA_eq eq5
                            have w9286 := rdA_fr (k := 10) (j := 0) gq2 c0 t_p0 (κ' := 60) rfl rfl rfl
                            have a9288 := zi_and p2 8 (by decide)
                            exact sw_some ⟨cq30, fq30, (by (try simp only [zp, zo, zq] at u5318 xq2 h5319 xq12 h5332 xq14 a5352 u5353 h5354 h5355 h8082 h8083 a8338 h8339 h8584 h8829 w9074 w9075 r9076 r9077 r9078 h9079 h9099 h9219 h9264 w9265 w9266 w9268 w9270 w9269 w9271 w9273 w9274 w9276 w9275 w9278 w9279 w9280 w9282 w9281 w9283 w9287 w9286 a9288 ⊢) <;> (try simp only [zz, Int32.reduceToInt, ne_eq] at u5318 xq2 h5319 xq12 h5332 xq14 a5352 u5353 h5354 h5355 h8082 h8083 a8338 h8339 h8584 h8829 w9074 w9075 r9076 r9077 r9078 h9079 h9099 h9219 h9264 w9265 w9266 w9268 w9270 w9269 w9271 w9273 w9274 w9276 w9275 w9278 w9279 w9280 w9282 w9281 w9283 w9287 w9286 a9288 ⊢) <;> (try simp (disch := omega) only [zb] at u5318 xq2 h5319 xq12 h5332 xq14 a5352 u5353 h5354 h5355 h8082 h8083 a8338 h8339 h8584 h8829 w9074 w9075 r9076 r9077 r9078 h9079 h9099 h9219 h9264 w9265 w9266 w9268 w9270 w9269 w9271 w9273 w9274 w9276 w9275 w9278 w9279 w9280 w9282 w9281 w9283 w9287 w9286 a9288 ⊢) <;> first | omega | ((try simp (disch := omega) only [zb] at u5318 xq2 h5319 xq12 h5332 xq14 a5352 u5353 h5354 h5355 h8082 h8083 a8338 h8339 h8584 h8829 w9074 w9075 r9076 r9077 r9078 h9079 h9099 h9219 h9264 w9265 w9266 w9268 w9270 w9269 w9271 w9273 w9274 w9276 w9275 w9278 w9279 w9280 w9282 w9281 w9283 w9287 w9286 a9288 ⊢) <;> omega))⟩
                          · refine sw_sh (ci_sh cq30 t_p0 rfl) ?_
                            refine sw_on (sX9_put cq30 t_p0 (by (try simp only [zp, zo, zq] at u5318 xq2 h5319 xq12 h5332 xq14 a5352 u5353 h5354 h5355 h8082 h8083 a8338 h8339 h8584 h8829 w9074 w9075 r9076 r9077 r9078 h9079 h9099 h9219 h9264 ⊢) <;> (try simp only [zz, Int32.reduceToInt, ne_eq] at u5318 xq2 h5319 xq12 h5332 xq14 a5352 u5353 h5354 h5355 h8082 h8083 a8338 h8339 h8584 h8829 w9074 w9075 r9076 r9077 r9078 h9079 h9099 h9219 h9264 ⊢) <;> (try simp (disch := omega) only [zb] at u5318 xq2 h5319 xq12 h5332 xq14 a5352 u5353 h5354 h5355 h8082 h8083 a8338 h8339 h8584 h8829 w9074 w9075 r9076 r9077 r9078 h9079 h9099 h9219 h9264 ⊢) <;> first | omega | ((try simp (disch := omega) only [zb] at u5318 xq2 h5319 xq12 h5332 xq14 a5352 u5353 h5354 h5355 h8082 h8083 a8338 h8339 h8584 h8829 w9074 w9075 r9076 r9077 r9078 h9079 h9099 h9219 h9264 ⊢) <;> omega)) ) ?_
                            intro q28 hqq28
                            obtain ⟨cq28, gq28, xq28⟩ := hqq28
                            have fq28 := fr_trans fq30 gq28 rfl
                            have w9289 := (gq28.2.2 _ _ t_p0 0 rfl).1
                            have w9290 := (gq30.2.2 _ _ t_p0 0 rfl).1
                            have w9291 : mm_I s11 p0 0 = mm_I q2.2 p0 0 := by rw [← es11]; exact rd_k t_p0 tq5 (by decide)
                            have w9293 := rdA_fr (k := 9) (j := 1) gq28 cq30 t_p0 (κ' := 59) rfl rfl rfl
                            have w9294 := rdA_fr (k := 9) (j := 1) gq30 cs11 t_p0 (κ' := 59) rfl rfl rfl
                            have w9296 : rdA s11 p0 9 1 = mm_I s11 q17 ((1 : Int32)).toNatClampNeg := rdA_eq eq17
                            have w9295 : rdA s11 p0 9 1 = rdA q2.2 p0 9 1 := by rw [← es11]; exact rdA_k cq2 t_p0 (κ' := 59) rfl tq5 (by decide)
                            have w9297 := rdA_fr (k := 9) (j := 1) gq2 c0 t_p0 (κ' := 59) rfl rfl rfl
                            have w9299 := rdA_fr (k := 10) (j := 1) gq28 cq30 t_p0 (κ' := 60) rfl rfl rfl
                            have w9300 := rdA_fr (k := 10) (j := 1) gq30 cs11 t_p0 (κ' := 60) rfl rfl rfl
                            have w9301 : rdA s11 p0 10 1 = rdA q2.2 p0 10 1 := by rw [← es11]; exact rdA_j (by decide)
                            have w9303 : rdA q2.2 p0 10 1 = mm_I q2.2 q5 ((1 : Int32)).toNatClampNeg := rdA_eq eq5
                            have w9302 := rdA_fr (k := 10) (j := 1) gq2 c0 t_p0 (κ' := 60) rfl rfl rfl
                            have w9305 := rdA_fr (k := 10) (j := 0) gq28 cq30 t_p0 (κ' := 60) rfl rfl rfl
                            have w9306 := rdA_fr (k := 10) (j := 0) gq30 cs11 t_p0 (κ' := 60) rfl rfl rfl
                            have w9307 : rdA s11 p0 10 0 = -1 := by rw [← es11]; exact rdA_self eq5
                            have w9308 := rdA_fr (k := 9) (j := 0) gq28 cq30 t_p0 (κ' := 59) rfl rfl rfl
                            have w9309 := rdA_fr (k := 9) (j := 0) gq30 cs11 t_p0 (κ' := 59) rfl rfl rfl
                            have w9311 : rdA s11 p0 9 0 = mm_I s11 q17 ((0 : Int32)).toNatClampNeg := rdA_eq eq17
                            have w9310 : rdA s11 p0 9 0 = rdA q2.2 p0 9 0 := by rw [← es11]; exact rdA_k cq2 t_p0 (κ' := 59) rfl tq5 (by decide)
                            have w9312 := rdA_fr (k := 9) (j := 0) gq2 c0 t_p0 (κ' := 59) rfl rfl rfl
                            have w9316 : rdA q2.2 p0 10 0 = mm_I q2.2 q5 ((0 : Int32)).toNatClampNeg := rdA_eq eq5
                            have w9315 := rdA_fr (k := 10) (j := 0) gq2 c0 t_p0 (κ' := 60) rfl rfl rfl
                            have a9317 := zi_and p2 8 (by decide)
                            exact sw_some ⟨cq28, fq28, (by (try simp only [zp, zo, zq] at u5318 xq2 h5319 xq12 h5332 xq14 a5352 u5353 h5354 h5355 h8082 h8083 a8338 h8339 h8584 h8829 w9074 w9075 r9076 r9077 r9078 h9079 h9099 h9219 h9264 w9289 w9290 w9291 w9293 w9294 w9296 w9295 w9297 w9299 w9300 w9301 w9303 w9302 w9305 w9306 w9307 w9308 w9309 w9311 w9310 w9312 w9316 w9315 a9317 ⊢) <;> (try simp only [zz, Int32.reduceToInt, ne_eq] at u5318 xq2 h5319 xq12 h5332 xq14 a5352 u5353 h5354 h5355 h8082 h8083 a8338 h8339 h8584 h8829 w9074 w9075 r9076 r9077 r9078 h9079 h9099 h9219 h9264 w9289 w9290 w9291 w9293 w9294 w9296 w9295 w9297 w9299 w9300 w9301 w9303 w9302 w9305 w9306 w9307 w9308 w9309 w9311 w9310 w9312 w9316 w9315 a9317 ⊢) <;> (try simp (disch := omega) only [zb] at u5318 xq2 h5319 xq12 h5332 xq14 a5352 u5353 h5354 h5355 h8082 h8083 a8338 h8339 h8584 h8829 w9074 w9075 r9076 r9077 r9078 h9079 h9099 h9219 h9264 w9289 w9290 w9291 w9293 w9294 w9296 w9295 w9297 w9299 w9300 w9301 w9303 w9302 w9305 w9306 w9307 w9308 w9309 w9311 w9310 w9312 w9316 w9315 a9317 ⊢) <;> first | omega | ((try simp (disch := omega) only [zb] at u5318 xq2 h5319 xq12 h5332 xq14 a5352 u5353 h5354 h5355 h8082 h8083 a8338 h8339 h8584 h8829 w9074 w9075 r9076 r9077 r9078 h9079 h9099 h9219 h9264 w9289 w9290 w9291 w9293 w9294 w9296 w9295 w9297 w9299 w9300 w9301 w9303 w9302 w9305 w9306 w9307 w9308 w9309 w9311 w9310 w9312 w9316 w9315 a9317 ⊢) <;> omega))⟩
          · refine sw_ite (fun h9318 => ?_) (fun h9318 => ?_)
            · unfold fX9_pair_228
              have w9319 : mm_I s11 q17 ((0 : Int32).toNatClampNeg) = mm_I q2.2 q17 ((0 : Int32).toNatClampNeg) := by rw [← es11]; exact rd_k tq17 tq5 (by decide)
              have w9320 := (gq2.2.2 _ _ tq17 ((0 : Int32).toNatClampNeg) rfl).1
              have r9321 := ci_rg c0 tq17 ((0 : Int32).toNatClampNeg) (lo := (-1)) (hi := 3) rfl
              have r9322 := ci_rg cq2 tq17 ((0 : Int32).toNatClampNeg) (lo := (-1)) (hi := 3) rfl
              have r9323 := ci_rg cs11 tq17 ((0 : Int32).toNatClampNeg) (lo := (-1)) (hi := 3) rfl
              refine sw_ite (fun h9324 => ?_) (fun h9324 => ?_)
              · have w9325 : mm_I s11 p0 0 = mm_I q2.2 p0 0 := by rw [← es11]; exact rd_k t_p0 tq5 (by decide)
                have w9328 : rdA s11 p0 9 1 = mm_I s11 q17 ((1 : Int32)).toNatClampNeg := rdA_eq eq17
                have w9327 : rdA s11 p0 9 1 = rdA q2.2 p0 9 1 := by rw [← es11]; exact rdA_k cq2 t_p0 (κ' := 59) rfl tq5 (by decide)
                have w9329 := rdA_fr (k := 9) (j := 1) gq2 c0 t_p0 (κ' := 59) rfl rfl rfl
                have w9331 : rdA s11 p0 10 1 = rdA q2.2 p0 10 1 := by rw [← es11]; exact rdA_j (by decide)
                have w9333 : rdA q2.2 p0 10 1 = mm_I q2.2 q5 ((1 : Int32)).toNatClampNeg := rdA_eq eq5
                have w9332 := rdA_fr (k := 10) (j := 1) gq2 c0 t_p0 (κ' := 60) rfl rfl rfl
                have w9335 : rdA s11 p0 10 0 = -1 := by rw [← es11]; exact rdA_self eq5
                have w9337 : rdA s11 p0 9 0 = mm_I s11 q17 ((0 : Int32)).toNatClampNeg := rdA_eq eq17
                have w9336 : rdA s11 p0 9 0 = rdA q2.2 p0 9 0 := by rw [← es11]; exact rdA_k cq2 t_p0 (κ' := 59) rfl tq5 (by decide)
                have w9338 := rdA_fr (k := 9) (j := 0) gq2 c0 t_p0 (κ' := 59) rfl rfl rfl
                have w9342 : rdA q2.2 p0 10 0 = mm_I q2.2 q5 ((0 : Int32)).toNatClampNeg := rdA_eq eq5
                have w9341 := rdA_fr (k := 10) (j := 0) gq2 c0 t_p0 (κ' := 60) rfl rfl rfl
                have a9343 := zi_and p3 127 (by decide)
                have a9344 := zi_and p2 8 (by decide)
                exact sw_some ⟨cs11, fs11, (by (try simp only [zp, zo, zq] at u5318 xq2 h5319 xq12 h5332 xq14 a5352 u5353 h5354 h5355 h8082 h9318 w9319 w9320 r9321 r9322 r9323 h9324 w9325 w9328 w9327 w9329 w9331 w9333 w9332 w9335 w9337 w9336 w9338 w9342 w9341 a9343 a9344 ⊢) <;> (try simp only [zz, Int32.reduceToInt, ne_eq] at u5318 xq2 h5319 xq12 h5332 xq14 a5352 u5353 h5354 h5355 h8082 h9318 w9319 w9320 r9321 r9322 r9323 h9324 w9325 w9328 w9327 w9329 w9331 w9333 w9332 w9335 w9337 w9336 w9338 w9342 w9341 a9343 a9344 ⊢) <;> (try simp (disch := omega) only [zb] at u5318 xq2 h5319 xq12 h5332 xq14 a5352 u5353 h5354 h5355 h8082 h9318 w9319 w9320 r9321 r9322 r9323 h9324 w9325 w9328 w9327 w9329 w9331 w9333 w9332 w9335 w9337 w9336 w9338 w9342 w9341 a9343 a9344 ⊢) <;> first | omega | ((try simp (disch := omega) only [zb] at u5318 xq2 h5319 xq12 h5332 xq14 a5352 u5353 h5354 h5355 h8082 h9318 w9319 w9320 r9321 r9322 r9323 h9324 w9325 w9328 w9327 w9329 w9331 w9333 w9332 w9335 w9337 w9336 w9338 w9342 w9341 a9343 a9344 ⊢) <;> omega))⟩
              · refine sw_ite (fun h9345 => ?_) (fun h9345 => ?_)
                · refine sw_ite (fun h9346 => ?_) (fun h9346 => ?_)
                  · have w9347 : mm_I s11 p0 0 = mm_I q2.2 p0 0 := by rw [← es11]; exact rd_k t_p0 tq5 (by decide)
                    have w9350 : rdA s11 p0 9 1 = mm_I s11 q17 ((1 : Int32)).toNatClampNeg := rdA_eq eq17
                    have w9349 : rdA s11 p0 9 1 = rdA q2.2 p0 9 1 := by rw [← es11]; exact rdA_k cq2 t_p0 (κ' := 59) rfl tq5 (by decide)
                    have w9351 := rdA_fr (k := 9) (j := 1) gq2 c0 t_p0 (κ' := 59) rfl rfl rfl
                    have w9353 : rdA s11 p0 10 1 = rdA q2.2 p0 10 1 := by rw [← es11]; exact rdA_j (by decide)
                    have w9355 : rdA q2.2 p0 10 1 = mm_I q2.2 q5 ((1 : Int32)).toNatClampNeg := rdA_eq eq5
                    have w9354 := rdA_fr (k := 10) (j := 1) gq2 c0 t_p0 (κ' := 60) rfl rfl rfl
                    have w9357 : rdA s11 p0 10 0 = -1 := by rw [← es11]; exact rdA_self eq5
                    have w9359 : rdA s11 p0 9 0 = mm_I s11 q17 ((0 : Int32)).toNatClampNeg := rdA_eq eq17
                    have w9358 : rdA s11 p0 9 0 = rdA q2.2 p0 9 0 := by rw [← es11]; exact rdA_k cq2 t_p0 (κ' := 59) rfl tq5 (by decide)
                    have w9360 := rdA_fr (k := 9) (j := 0) gq2 c0 t_p0 (κ' := 59) rfl rfl rfl
                    have w9364 : rdA q2.2 p0 10 0 = mm_I q2.2 q5 ((0 : Int32)).toNatClampNeg := rdA_eq eq5
                    have w9363 := rdA_fr (k := 10) (j := 0) gq2 c0 t_p0 (κ' := 60) rfl rfl rfl
                    have a9365 := zi_and p3 127 (by decide)
                    have a9366 := zi_and p2 8 (by decide)
                    exact sw_some ⟨cs11, fs11, (by (try simp only [zp, zo, zq] at u5318 xq2 h5319 xq12 h5332 xq14 a5352 u5353 h5354 h5355 h8082 h9318 w9319 w9320 r9321 r9322 r9323 h9324 h9345 h9346 w9347 w9350 w9349 w9351 w9353 w9355 w9354 w9357 w9359 w9358 w9360 w9364 w9363 a9365 a9366 ⊢) <;> (try simp only [zz, Int32.reduceToInt, ne_eq] at u5318 xq2 h5319 xq12 h5332 xq14 a5352 u5353 h5354 h5355 h8082 h9318 w9319 w9320 r9321 r9322 r9323 h9324 h9345 h9346 w9347 w9350 w9349 w9351 w9353 w9355 w9354 w9357 w9359 w9358 w9360 w9364 w9363 a9365 a9366 ⊢) <;> (try simp (disch := omega) only [zb] at u5318 xq2 h5319 xq12 h5332 xq14 a5352 u5353 h5354 h5355 h8082 h9318 w9319 w9320 r9321 r9322 r9323 h9324 h9345 h9346 w9347 w9350 w9349 w9351 w9353 w9355 w9354 w9357 w9359 w9358 w9360 w9364 w9363 a9365 a9366 ⊢) <;> first | omega | ((try simp (disch := omega) only [zb] at u5318 xq2 h5319 xq12 h5332 xq14 a5352 u5353 h5354 h5355 h8082 h9318 w9319 w9320 r9321 r9322 r9323 h9324 h9345 h9346 w9347 w9350 w9349 w9351 w9353 w9355 w9354 w9357 w9359 w9358 w9360 w9364 w9363 a9365 a9366 ⊢) <;> omega))⟩
                  · unfold fX9_pair_250
                    refine sw_ite (fun h9367 => ?_) (fun h9367 => ?_)
                    · unfold fX9_pair_264
                      refine sw_ite (fun h9368 => ?_) (fun h9368 => ?_)
                      · have w9369 : mm_I s11 p0 0 = mm_I q2.2 p0 0 := by rw [← es11]; exact rd_k t_p0 tq5 (by decide)
                        have w9372 : rdA s11 p0 9 1 = mm_I s11 q17 ((1 : Int32)).toNatClampNeg := rdA_eq eq17
                        have w9371 : rdA s11 p0 9 1 = rdA q2.2 p0 9 1 := by rw [← es11]; exact rdA_k cq2 t_p0 (κ' := 59) rfl tq5 (by decide)
                        have w9373 := rdA_fr (k := 9) (j := 1) gq2 c0 t_p0 (κ' := 59) rfl rfl rfl
                        have w9375 : rdA s11 p0 10 1 = rdA q2.2 p0 10 1 := by rw [← es11]; exact rdA_j (by decide)
                        have w9377 : rdA q2.2 p0 10 1 = mm_I q2.2 q5 ((1 : Int32)).toNatClampNeg := rdA_eq eq5
                        have w9376 := rdA_fr (k := 10) (j := 1) gq2 c0 t_p0 (κ' := 60) rfl rfl rfl
                        have w9379 : rdA s11 p0 10 0 = -1 := by rw [← es11]; exact rdA_self eq5
                        have w9381 : rdA s11 p0 9 0 = mm_I s11 q17 ((0 : Int32)).toNatClampNeg := rdA_eq eq17
                        have w9380 : rdA s11 p0 9 0 = rdA q2.2 p0 9 0 := by rw [← es11]; exact rdA_k cq2 t_p0 (κ' := 59) rfl tq5 (by decide)
                        have w9382 := rdA_fr (k := 9) (j := 0) gq2 c0 t_p0 (κ' := 59) rfl rfl rfl
                        have w9386 : rdA q2.2 p0 10 0 = mm_I q2.2 q5 ((0 : Int32)).toNatClampNeg := rdA_eq eq5
                        have w9385 := rdA_fr (k := 10) (j := 0) gq2 c0 t_p0 (κ' := 60) rfl rfl rfl
                        have a9387 := zi_and p3 127 (by decide)
                        have a9388 := zi_and p2 8 (by decide)
                        exact sw_some ⟨cs11, fs11, (by (try simp only [zp, zo, zq] at u5318 xq2 h5319 xq12 h5332 xq14 a5352 u5353 h5354 h5355 h8082 h9318 w9319 w9320 r9321 r9322 r9323 h9324 h9345 h9346 h9367 h9368 w9369 w9372 w9371 w9373 w9375 w9377 w9376 w9379 w9381 w9380 w9382 w9386 w9385 a9387 a9388 ⊢) <;> (try simp only [zz, Int32.reduceToInt, ne_eq] at u5318 xq2 h5319 xq12 h5332 xq14 a5352 u5353 h5354 h5355 h8082 h9318 w9319 w9320 r9321 r9322 r9323 h9324 h9345 h9346 h9367 h9368 w9369 w9372 w9371 w9373 w9375 w9377 w9376 w9379 w9381 w9380 w9382 w9386 w9385 a9387 a9388 ⊢) <;> (try simp (disch := omega) only [zb] at u5318 xq2 h5319 xq12 h5332 xq14 a5352 u5353 h5354 h5355 h8082 h9318 w9319 w9320 r9321 r9322 r9323 h9324 h9345 h9346 h9367 h9368 w9369 w9372 w9371 w9373 w9375 w9377 w9376 w9379 w9381 w9380 w9382 w9386 w9385 a9387 a9388 ⊢) <;> first | omega | ((try simp (disch := omega) only [zb] at u5318 xq2 h5319 xq12 h5332 xq14 a5352 u5353 h5354 h5355 h8082 h9318 w9319 w9320 r9321 r9322 r9323 h9324 h9345 h9346 h9367 h9368 w9369 w9372 w9371 w9373 w9375 w9377 w9376 w9379 w9381 w9380 w9382 w9386 w9385 a9387 a9388 ⊢) <;> omega))⟩
                      · refine sw_sh (ci_sh cs11 t_p0 rfl) ?_
                        refine sw_on (sX9_put cs11 t_p0 (by (try simp only [zp, zo, zq] at u5318 xq2 h5319 xq12 h5332 xq14 a5352 u5353 h5354 h5355 h8082 h9318 w9319 w9320 r9321 r9322 r9323 h9324 h9345 h9346 h9367 h9368 ⊢) <;> (try simp only [zz, Int32.reduceToInt, ne_eq] at u5318 xq2 h5319 xq12 h5332 xq14 a5352 u5353 h5354 h5355 h8082 h9318 w9319 w9320 r9321 r9322 r9323 h9324 h9345 h9346 h9367 h9368 ⊢) <;> (try simp (disch := omega) only [zb] at u5318 xq2 h5319 xq12 h5332 xq14 a5352 u5353 h5354 h5355 h8082 h9318 w9319 w9320 r9321 r9322 r9323 h9324 h9345 h9346 h9367 h9368 ⊢) <;> first | omega | ((try simp (disch := omega) only [zb] at u5318 xq2 h5319 xq12 h5332 xq14 a5352 u5353 h5354 h5355 h8082 h9318 w9319 w9320 r9321 r9322 r9323 h9324 h9345 h9346 h9367 h9368 ⊢) <;> omega)) ) ?_
                        intro q28 hqq28
                        obtain ⟨cq28, gq28, xq28⟩ := hqq28
                        have fq28 := fr_trans fs11 gq28 rfl
                        have w9389 := (gq28.2.2 _ _ t_p0 0 rfl).1
                        have w9390 : mm_I s11 p0 0 = mm_I q2.2 p0 0 := by rw [← es11]; exact rd_k t_p0 tq5 (by decide)
                        have w9392 := rdA_fr (k := 9) (j := 1) gq28 cs11 t_p0 (κ' := 59) rfl rfl rfl
                        have w9394 : rdA s11 p0 9 1 = mm_I s11 q17 ((1 : Int32)).toNatClampNeg := rdA_eq eq17
                        have w9393 : rdA s11 p0 9 1 = rdA q2.2 p0 9 1 := by rw [← es11]; exact rdA_k cq2 t_p0 (κ' := 59) rfl tq5 (by decide)
                        have w9395 := rdA_fr (k := 9) (j := 1) gq2 c0 t_p0 (κ' := 59) rfl rfl rfl
                        have w9397 := rdA_fr (k := 10) (j := 1) gq28 cs11 t_p0 (κ' := 60) rfl rfl rfl
                        have w9398 : rdA s11 p0 10 1 = rdA q2.2 p0 10 1 := by rw [← es11]; exact rdA_j (by decide)
                        have w9400 : rdA q2.2 p0 10 1 = mm_I q2.2 q5 ((1 : Int32)).toNatClampNeg := rdA_eq eq5
                        have w9399 := rdA_fr (k := 10) (j := 1) gq2 c0 t_p0 (κ' := 60) rfl rfl rfl
                        have w9402 := rdA_fr (k := 10) (j := 0) gq28 cs11 t_p0 (κ' := 60) rfl rfl rfl
                        have w9403 : rdA s11 p0 10 0 = -1 := by rw [← es11]; exact rdA_self eq5
                        have w9404 := rdA_fr (k := 9) (j := 0) gq28 cs11 t_p0 (κ' := 59) rfl rfl rfl
                        have w9406 : rdA s11 p0 9 0 = mm_I s11 q17 ((0 : Int32)).toNatClampNeg := rdA_eq eq17
                        have w9405 : rdA s11 p0 9 0 = rdA q2.2 p0 9 0 := by rw [← es11]; exact rdA_k cq2 t_p0 (κ' := 59) rfl tq5 (by decide)
                        have w9407 := rdA_fr (k := 9) (j := 0) gq2 c0 t_p0 (κ' := 59) rfl rfl rfl
                        have w9411 : rdA q2.2 p0 10 0 = mm_I q2.2 q5 ((0 : Int32)).toNatClampNeg := rdA_eq eq5
                        have w9410 := rdA_fr (k := 10) (j := 0) gq2 c0 t_p0 (κ' := 60) rfl rfl rfl
                        have a9412 := zi_and p3 127 (by decide)
                        have a9413 := zi_and p2 8 (by decide)
                        exact sw_some ⟨cq28, fq28, (by (try simp only [zp, zo, zq] at u5318 xq2 h5319 xq12 h5332 xq14 a5352 u5353 h5354 h5355 h8082 h9318 w9319 w9320 r9321 r9322 r9323 h9324 h9345 h9346 h9367 h9368 w9389 w9390 w9392 w9394 w9393 w9395 w9397 w9398 w9400 w9399 w9402 w9403 w9404 w9406 w9405 w9407 w9411 w9410 a9412 a9413 ⊢) <;> (try simp only [zz, Int32.reduceToInt, ne_eq] at u5318 xq2 h5319 xq12 h5332 xq14 a5352 u5353 h5354 h5355 h8082 h9318 w9319 w9320 r9321 r9322 r9323 h9324 h9345 h9346 h9367 h9368 w9389 w9390 w9392 w9394 w9393 w9395 w9397 w9398 w9400 w9399 w9402 w9403 w9404 w9406 w9405 w9407 w9411 w9410 a9412 a9413 ⊢) <;> (try simp (disch := omega) only [zb] at u5318 xq2 h5319 xq12 h5332 xq14 a5352 u5353 h5354 h5355 h8082 h9318 w9319 w9320 r9321 r9322 r9323 h9324 h9345 h9346 h9367 h9368 w9389 w9390 w9392 w9394 w9393 w9395 w9397 w9398 w9400 w9399 w9402 w9403 w9404 w9406 w9405 w9407 w9411 w9410 a9412 a9413 ⊢) <;> first | omega | ((try simp (disch := omega) only [zb] at u5318 xq2 h5319 xq12 h5332 xq14 a5352 u5353 h5354 h5355 h8082 h9318 w9319 w9320 r9321 r9322 r9323 h9324 h9345 h9346 h9367 h9368 w9389 w9390 w9392 w9394 w9393 w9395 w9397 w9398 w9400 w9399 w9402 w9403 w9404 w9406 w9405 w9407 w9411 w9410 a9412 a9413 ⊢) <;> omega))⟩
                    · refine sw_sh (ci_sh cs11 t_p0 rfl) ?_
                      refine sw_on (sX9_put cs11 t_p0 (by (try simp only [zp, zo, zq] at u5318 xq2 h5319 xq12 h5332 xq14 a5352 u5353 h5354 h5355 h8082 h9318 w9319 w9320 r9321 r9322 r9323 h9324 h9345 h9346 h9367 ⊢) <;> (try simp only [zz, Int32.reduceToInt, ne_eq] at u5318 xq2 h5319 xq12 h5332 xq14 a5352 u5353 h5354 h5355 h8082 h9318 w9319 w9320 r9321 r9322 r9323 h9324 h9345 h9346 h9367 ⊢) <;> (try simp (disch := omega) only [zb] at u5318 xq2 h5319 xq12 h5332 xq14 a5352 u5353 h5354 h5355 h8082 h9318 w9319 w9320 r9321 r9322 r9323 h9324 h9345 h9346 h9367 ⊢) <;> first | omega | ((try simp (disch := omega) only [zb] at u5318 xq2 h5319 xq12 h5332 xq14 a5352 u5353 h5354 h5355 h8082 h9318 w9319 w9320 r9321 r9322 r9323 h9324 h9345 h9346 h9367 ⊢) <;> omega)) ) ?_
                      intro q30 hqq30
                      obtain ⟨cq30, gq30, xq30⟩ := hqq30
                      have fq30 := fr_trans fs11 gq30 rfl
                      unfold fX9_pair_264
                      refine sw_ite (fun h9414 => ?_) (fun h9414 => ?_)
                      · have w9415 := (gq30.2.2 _ _ t_p0 0 rfl).1
                        have w9416 : mm_I s11 p0 0 = mm_I q2.2 p0 0 := by rw [← es11]; exact rd_k t_p0 tq5 (by decide)
                        have w9418 := rdA_fr (k := 9) (j := 1) gq30 cs11 t_p0 (κ' := 59) rfl rfl rfl
                        have w9420 : rdA s11 p0 9 1 = mm_I s11 q17 ((1 : Int32)).toNatClampNeg := rdA_eq eq17
                        have w9419 : rdA s11 p0 9 1 = rdA q2.2 p0 9 1 := by rw [← es11]; exact rdA_k cq2 t_p0 (κ' := 59) rfl tq5 (by decide)
                        have w9421 := rdA_fr (k := 9) (j := 1) gq2 c0 t_p0 (κ' := 59) rfl rfl rfl
                        have w9423 := rdA_fr (k := 10) (j := 1) gq30 cs11 t_p0 (κ' := 60) rfl rfl rfl
                        have w9424 : rdA s11 p0 10 1 = rdA q2.2 p0 10 1 := by rw [← es11]; exact rdA_j (by decide)
                        have w9426 : rdA q2.2 p0 10 1 = mm_I q2.2 q5 ((1 : Int32)).toNatClampNeg := rdA_eq eq5
                        have w9425 := rdA_fr (k := 10) (j := 1) gq2 c0 t_p0 (κ' := 60) rfl rfl rfl
                        have w9428 := rdA_fr (k := 10) (j := 0) gq30 cs11 t_p0 (κ' := 60) rfl rfl rfl
                        have w9429 : rdA s11 p0 10 0 = -1 := by rw [← es11]; exact rdA_self eq5
                        have w9430 := rdA_fr (k := 9) (j := 0) gq30 cs11 t_p0 (κ' := 59) rfl rfl rfl
                        have w9432 : rdA s11 p0 9 0 = mm_I s11 q17 ((0 : Int32)).toNatClampNeg := rdA_eq eq17
                        have w9431 : rdA s11 p0 9 0 = rdA q2.2 p0 9 0 := by rw [← es11]; exact rdA_k cq2 t_p0 (κ' := 59) rfl tq5 (by decide)
                        have w9433 := rdA_fr (k := 9) (j := 0) gq2 c0 t_p0 (κ' := 59) rfl rfl rfl
                        have w9437 : rdA q2.2 p0 10 0 = mm_I q2.2 q5 ((0 : Int32)).toNatClampNeg := rdA_eq eq5
                        have w9436 := rdA_fr (k := 10) (j := 0) gq2 c0 t_p0 (κ' := 60) rfl rfl rfl
                        have a9438 := zi_and p3 127 (by decide)
                        have a9439 := zi_and p2 8 (by decide)
                        exact sw_some ⟨cq30, fq30, (by (try simp only [zp, zo, zq] at u5318 xq2 h5319 xq12 h5332 xq14 a5352 u5353 h5354 h5355 h8082 h9318 w9319 w9320 r9321 r9322 r9323 h9324 h9345 h9346 h9367 h9414 w9415 w9416 w9418 w9420 w9419 w9421 w9423 w9424 w9426 w9425 w9428 w9429 w9430 w9432 w9431 w9433 w9437 w9436 a9438 a9439 ⊢) <;> (try simp only [zz, Int32.reduceToInt, ne_eq] at u5318 xq2 h5319 xq12 h5332 xq14 a5352 u5353 h5354 h5355 h8082 h9318 w9319 w9320 r9321 r9322 r9323 h9324 h9345 h9346 h9367 h9414 w9415 w9416 w9418 w9420 w9419 w9421 w9423 w9424 w9426 w9425 w9428 w9429 w9430 w9432 w9431 w9433 w9437 w9436 a9438 a9439 ⊢) <;> (try simp (disch := omega) only [zb] at u5318 xq2 h5319 xq12 h5332 xq14 a5352 u5353 h5354 h5355 h8082 h9318 w9319 w9320 r9321 r9322 r9323 h9324 h9345 h9346 h9367 h9414 w9415 w9416 w9418 w9420 w9419 w9421 w9423 w9424 w9426 w9425 w9428 w9429 w9430 w9432 w9431 w9433 w9437 w9436 a9438 a9439 ⊢) <;> first | omega | ((try simp (disch := omega) only [zb] at u5318 xq2 h5319 xq12 h5332 xq14 a5352 u5353 h5354 h5355 h8082 h9318 w9319 w9320 r9321 r9322 r9323 h9324 h9345 h9346 h9367 h9414 w9415 w9416 w9418 w9420 w9419 w9421 w9423 w9424 w9426 w9425 w9428 w9429 w9430 w9432 w9431 w9433 w9437 w9436 a9438 a9439 ⊢) <;> omega))⟩
                      · refine sw_sh (ci_sh cq30 t_p0 rfl) ?_
                        refine sw_on (sX9_put cq30 t_p0 (by (try simp only [zp, zo, zq] at u5318 xq2 h5319 xq12 h5332 xq14 a5352 u5353 h5354 h5355 h8082 h9318 w9319 w9320 r9321 r9322 r9323 h9324 h9345 h9346 h9367 h9414 ⊢) <;> (try simp only [zz, Int32.reduceToInt, ne_eq] at u5318 xq2 h5319 xq12 h5332 xq14 a5352 u5353 h5354 h5355 h8082 h9318 w9319 w9320 r9321 r9322 r9323 h9324 h9345 h9346 h9367 h9414 ⊢) <;> (try simp (disch := omega) only [zb] at u5318 xq2 h5319 xq12 h5332 xq14 a5352 u5353 h5354 h5355 h8082 h9318 w9319 w9320 r9321 r9322 r9323 h9324 h9345 h9346 h9367 h9414 ⊢) <;> first | omega | ((try simp (disch := omega) only [zb] at u5318 xq2 h5319 xq12 h5332 xq14 a5352 u5353 h5354 h5355 h8082 h9318 w9319 w9320 r9321 r9322 r9323 h9324 h9345 h9346 h9367 h9414 ⊢) <;> omega)) ) ?_
                        intro q28 hqq28
                        obtain ⟨cq28, gq28, xq28⟩ := hqq28
                        have fq28 := fr_trans fq30 gq28 rfl
                        have w9440 := (gq28.2.2 _ _ t_p0 0 rfl).1
                        have w9441 := (gq30.2.2 _ _ t_p0 0 rfl).1
                        have w9442 : mm_I s11 p0 0 = mm_I q2.2 p0 0 := by rw [← es11]; exact rd_k t_p0 tq5 (by decide)
                        have w9444 := rdA_fr (k := 9) (j := 1) gq28 cq30 t_p0 (κ' := 59) rfl rfl rfl
                        have w9445 := rdA_fr (k := 9) (j := 1) gq30 cs11 t_p0 (κ' := 59) rfl rfl rfl
                        have w9447 : rdA s11 p0 9 1 = mm_I s11 q17 ((1 : Int32)).toNatClampNeg := rdA_eq eq17
                        have w9446 : rdA s11 p0 9 1 = rdA q2.2 p0 9 1 := by rw [← es11]; exact rdA_k cq2 t_p0 (κ' := 59) rfl tq5 (by decide)
                        have w9448 := rdA_fr (k := 9) (j := 1) gq2 c0 t_p0 (κ' := 59) rfl rfl rfl
                        have w9450 := rdA_fr (k := 10) (j := 1) gq28 cq30 t_p0 (κ' := 60) rfl rfl rfl
                        have w9451 := rdA_fr (k := 10) (j := 1) gq30 cs11 t_p0 (κ' := 60) rfl rfl rfl
                        have w9452 : rdA s11 p0 10 1 = rdA q2.2 p0 10 1 := by rw [← es11]; exact rdA_j (by decide)
                        have w9454 : rdA q2.2 p0 10 1 = mm_I q2.2 q5 ((1 : Int32)).toNatClampNeg := rdA_eq eq5
                        have w9453 := rdA_fr (k := 10) (j := 1) gq2 c0 t_p0 (κ' := 60) rfl rfl rfl
                        have w9456 := rdA_fr (k := 10) (j := 0) gq28 cq30 t_p0 (κ' := 60) rfl rfl rfl
                        have w9457 := rdA_fr (k := 10) (j := 0) gq30 cs11 t_p0 (κ' := 60) rfl rfl rfl
                        have w9458 : rdA s11 p0 10 0 = -1 := by rw [← es11]; exact rdA_self eq5
                        have w9459 := rdA_fr (k := 9) (j := 0) gq28 cq30 t_p0 (κ' := 59) rfl rfl rfl
                        have w9460 := rdA_fr (k := 9) (j := 0) gq30 cs11 t_p0 (κ' := 59) rfl rfl rfl
                        have w9462 : rdA s11 p0 9 0 = mm_I s11 q17 ((0 : Int32)).toNatClampNeg := rdA_eq eq17
                        have w9461 : rdA s11 p0 9 0 = rdA q2.2 p0 9 0 := by rw [← es11]; exact rdA_k cq2 t_p0 (κ' := 59) rfl tq5 (by decide)
                        have w9463 := rdA_fr (k := 9) (j := 0) gq2 c0 t_p0 (κ' := 59) rfl rfl rfl
                        have w9467 : rdA q2.2 p0 10 0 = mm_I q2.2 q5 ((0 : Int32)).toNatClampNeg := rdA_eq eq5
                        have w9466 := rdA_fr (k := 10) (j := 0) gq2 c0 t_p0 (κ' := 60) rfl rfl rfl
                        have a9468 := zi_and p3 127 (by decide)
                        have a9469 := zi_and p2 8 (by decide)
                        exact sw_some ⟨cq28, fq28, (by (try simp only [zp, zo, zq] at u5318 xq2 h5319 xq12 h5332 xq14 a5352 u5353 h5354 h5355 h8082 h9318 w9319 w9320 r9321 r9322 r9323 h9324 h9345 h9346 h9367 h9414 w9440 w9441 w9442 w9444 w9445 w9447 w9446 w9448 w9450 w9451 w9452 w9454 w9453 w9456 w9457 w9458 w9459 w9460 w9462 w9461 w9463 w9467 w9466 a9468 a9469 ⊢) <;> (try simp only [zz, Int32.reduceToInt, ne_eq] at u5318 xq2 h5319 xq12 h5332 xq14 a5352 u5353 h5354 h5355 h8082 h9318 w9319 w9320 r9321 r9322 r9323 h9324 h9345 h9346 h9367 h9414 w9440 w9441 w9442 w9444 w9445 w9447 w9446 w9448 w9450 w9451 w9452 w9454 w9453 w9456 w9457 w9458 w9459 w9460 w9462 w9461 w9463 w9467 w9466 a9468 a9469 ⊢) <;> (try simp (disch := omega) only [zb] at u5318 xq2 h5319 xq12 h5332 xq14 a5352 u5353 h5354 h5355 h8082 h9318 w9319 w9320 r9321 r9322 r9323 h9324 h9345 h9346 h9367 h9414 w9440 w9441 w9442 w9444 w9445 w9447 w9446 w9448 w9450 w9451 w9452 w9454 w9453 w9456 w9457 w9458 w9459 w9460 w9462 w9461 w9463 w9467 w9466 a9468 a9469 ⊢) <;> first | omega | ((try simp (disch := omega) only [zb] at u5318 xq2 h5319 xq12 h5332 xq14 a5352 u5353 h5354 h5355 h8082 h9318 w9319 w9320 r9321 r9322 r9323 h9324 h9345 h9346 h9367 h9414 w9440 w9441 w9442 w9444 w9445 w9447 w9446 w9448 w9450 w9451 w9452 w9454 w9453 w9456 w9457 w9458 w9459 w9460 w9462 w9461 w9463 w9467 w9466 a9468 a9469 ⊢) <;> omega))⟩
                · unfold fX9_pair_250
                  refine sw_ite (fun h9470 => ?_) (fun h9470 => ?_)
                  · unfold fX9_pair_264
                    refine sw_ite (fun h9471 => ?_) (fun h9471 => ?_)
                    · have w9472 : mm_I s11 p0 0 = mm_I q2.2 p0 0 := by rw [← es11]; exact rd_k t_p0 tq5 (by decide)
                      have w9475 : rdA s11 p0 9 1 = mm_I s11 q17 ((1 : Int32)).toNatClampNeg := rdA_eq eq17
                      have w9474 : rdA s11 p0 9 1 = rdA q2.2 p0 9 1 := by rw [← es11]; exact rdA_k cq2 t_p0 (κ' := 59) rfl tq5 (by decide)
                      have w9476 := rdA_fr (k := 9) (j := 1) gq2 c0 t_p0 (κ' := 59) rfl rfl rfl
                      have w9478 : rdA s11 p0 10 1 = rdA q2.2 p0 10 1 := by rw [← es11]; exact rdA_j (by decide)
                      have w9480 : rdA q2.2 p0 10 1 = mm_I q2.2 q5 ((1 : Int32)).toNatClampNeg := rdA_eq eq5
                      have w9479 := rdA_fr (k := 10) (j := 1) gq2 c0 t_p0 (κ' := 60) rfl rfl rfl
                      have w9482 : rdA s11 p0 10 0 = -1 := by rw [← es11]; exact rdA_self eq5
                      have w9484 : rdA s11 p0 9 0 = mm_I s11 q17 ((0 : Int32)).toNatClampNeg := rdA_eq eq17
                      have w9483 : rdA s11 p0 9 0 = rdA q2.2 p0 9 0 := by rw [← es11]; exact rdA_k cq2 t_p0 (κ' := 59) rfl tq5 (by decide)
                      have w9485 := rdA_fr (k := 9) (j := 0) gq2 c0 t_p0 (κ' := 59) rfl rfl rfl
                      have w9489 : rdA q2.2 p0 10 0 = mm_I q2.2 q5 ((0 : Int32)).toNatClampNeg := rdA_eq eq5
                      have w9488 := rdA_fr (k := 10) (j := 0) gq2 c0 t_p0 (κ' := 60) rfl rfl rfl
                      have a9490 := zi_and p3 127 (by decide)
                      have a9491 := zi_and p2 8 (by decide)
                      exact sw_some ⟨cs11, fs11, (by (try simp only [zp, zo, zq] at u5318 xq2 h5319 xq12 h5332 xq14 a5352 u5353 h5354 h5355 h8082 h9318 w9319 w9320 r9321 r9322 r9323 h9324 h9345 h9470 h9471 w9472 w9475 w9474 w9476 w9478 w9480 w9479 w9482 w9484 w9483 w9485 w9489 w9488 a9490 a9491 ⊢) <;> (try simp only [zz, Int32.reduceToInt, ne_eq] at u5318 xq2 h5319 xq12 h5332 xq14 a5352 u5353 h5354 h5355 h8082 h9318 w9319 w9320 r9321 r9322 r9323 h9324 h9345 h9470 h9471 w9472 w9475 w9474 w9476 w9478 w9480 w9479 w9482 w9484 w9483 w9485 w9489 w9488 a9490 a9491 ⊢) <;> (try simp (disch := omega) only [zb] at u5318 xq2 h5319 xq12 h5332 xq14 a5352 u5353 h5354 h5355 h8082 h9318 w9319 w9320 r9321 r9322 r9323 h9324 h9345 h9470 h9471 w9472 w9475 w9474 w9476 w9478 w9480 w9479 w9482 w9484 w9483 w9485 w9489 w9488 a9490 a9491 ⊢) <;> first | omega | ((try simp (disch := omega) only [zb] at u5318 xq2 h5319 xq12 h5332 xq14 a5352 u5353 h5354 h5355 h8082 h9318 w9319 w9320 r9321 r9322 r9323 h9324 h9345 h9470 h9471 w9472 w9475 w9474 w9476 w9478 w9480 w9479 w9482 w9484 w9483 w9485 w9489 w9488 a9490 a9491 ⊢) <;> omega))⟩
                    · refine sw_sh (ci_sh cs11 t_p0 rfl) ?_
                      refine sw_on (sX9_put cs11 t_p0 (by (try simp only [zp, zo, zq] at u5318 xq2 h5319 xq12 h5332 xq14 a5352 u5353 h5354 h5355 h8082 h9318 w9319 w9320 r9321 r9322 r9323 h9324 h9345 h9470 h9471 ⊢) <;> (try simp only [zz, Int32.reduceToInt, ne_eq] at u5318 xq2 h5319 xq12 h5332 xq14 a5352 u5353 h5354 h5355 h8082 h9318 w9319 w9320 r9321 r9322 r9323 h9324 h9345 h9470 h9471 ⊢) <;> (try simp (disch := omega) only [zb] at u5318 xq2 h5319 xq12 h5332 xq14 a5352 u5353 h5354 h5355 h8082 h9318 w9319 w9320 r9321 r9322 r9323 h9324 h9345 h9470 h9471 ⊢) <;> first | omega | ((try simp (disch := omega) only [zb] at u5318 xq2 h5319 xq12 h5332 xq14 a5352 u5353 h5354 h5355 h8082 h9318 w9319 w9320 r9321 r9322 r9323 h9324 h9345 h9470 h9471 ⊢) <;> omega)) ) ?_
                      intro q28 hqq28
                      obtain ⟨cq28, gq28, xq28⟩ := hqq28
                      have fq28 := fr_trans fs11 gq28 rfl
                      have w9492 := (gq28.2.2 _ _ t_p0 0 rfl).1
                      have w9493 : mm_I s11 p0 0 = mm_I q2.2 p0 0 := by rw [← es11]; exact rd_k t_p0 tq5 (by decide)
                      have w9495 := rdA_fr (k := 9) (j := 1) gq28 cs11 t_p0 (κ' := 59) rfl rfl rfl
                      have w9497 : rdA s11 p0 9 1 = mm_I s11 q17 ((1 : Int32)).toNatClampNeg := rdA_eq eq17
                      have w9496 : rdA s11 p0 9 1 = rdA q2.2 p0 9 1 := by rw [← es11]; exact rdA_k cq2 t_p0 (κ' := 59) rfl tq5 (by decide)
                      have w9498 := rdA_fr (k := 9) (j := 1) gq2 c0 t_p0 (κ' := 59) rfl rfl rfl
                      have w9500 := rdA_fr (k := 10) (j := 1) gq28 cs11 t_p0 (κ' := 60) rfl rfl rfl
                      have w9501 : rdA s11 p0 10 1 = rdA q2.2 p0 10 1 := by rw [← es11]; exact rdA_j (by decide)
                      have w9503 : rdA q2.2 p0 10 1 = mm_I q2.2 q5 ((1 : Int32)).toNatClampNeg := rdA_eq eq5
                      have w9502 := rdA_fr (k := 10) (j := 1) gq2 c0 t_p0 (κ' := 60) rfl rfl rfl
                      have w9505 := rdA_fr (k := 10) (j := 0) gq28 cs11 t_p0 (κ' := 60) rfl rfl rfl
                      have w9506 : rdA s11 p0 10 0 = -1 := by rw [← es11]; exact rdA_self eq5
                      have w9507 := rdA_fr (k := 9) (j := 0) gq28 cs11 t_p0 (κ' := 59) rfl rfl rfl
                      have w9509 : rdA s11 p0 9 0 = mm_I s11 q17 ((0 : Int32)).toNatClampNeg := rdA_eq eq17
                      have w9508 : rdA s11 p0 9 0 = rdA q2.2 p0 9 0 := by rw [← es11]; exact rdA_k cq2 t_p0 (κ' := 59) rfl tq5 (by decide)
                      have w9510 := rdA_fr (k := 9) (j := 0) gq2 c0 t_p0 (κ' := 59) rfl rfl rfl
                      have w9514 : rdA q2.2 p0 10 0 = mm_I q2.2 q5 ((0 : Int32)).toNatClampNeg := rdA_eq eq5
                      have w9513 := rdA_fr (k := 10) (j := 0) gq2 c0 t_p0 (κ' := 60) rfl rfl rfl
                      have a9515 := zi_and p3 127 (by decide)
                      have a9516 := zi_and p2 8 (by decide)
                      exact sw_some ⟨cq28, fq28, (by (try simp only [zp, zo, zq] at u5318 xq2 h5319 xq12 h5332 xq14 a5352 u5353 h5354 h5355 h8082 h9318 w9319 w9320 r9321 r9322 r9323 h9324 h9345 h9470 h9471 w9492 w9493 w9495 w9497 w9496 w9498 w9500 w9501 w9503 w9502 w9505 w9506 w9507 w9509 w9508 w9510 w9514 w9513 a9515 a9516 ⊢) <;> (try simp only [zz, Int32.reduceToInt, ne_eq] at u5318 xq2 h5319 xq12 h5332 xq14 a5352 u5353 h5354 h5355 h8082 h9318 w9319 w9320 r9321 r9322 r9323 h9324 h9345 h9470 h9471 w9492 w9493 w9495 w9497 w9496 w9498 w9500 w9501 w9503 w9502 w9505 w9506 w9507 w9509 w9508 w9510 w9514 w9513 a9515 a9516 ⊢) <;> (try simp (disch := omega) only [zb] at u5318 xq2 h5319 xq12 h5332 xq14 a5352 u5353 h5354 h5355 h8082 h9318 w9319 w9320 r9321 r9322 r9323 h9324 h9345 h9470 h9471 w9492 w9493 w9495 w9497 w9496 w9498 w9500 w9501 w9503 w9502 w9505 w9506 w9507 w9509 w9508 w9510 w9514 w9513 a9515 a9516 ⊢) <;> first | omega | ((try simp (disch := omega) only [zb] at u5318 xq2 h5319 xq12 h5332 xq14 a5352 u5353 h5354 h5355 h8082 h9318 w9319 w9320 r9321 r9322 r9323 h9324 h9345 h9470 h9471 w9492 w9493 w9495 w9497 w9496 w9498 w9500 w9501 w9503 w9502 w9505 w9506 w9507 w9509 w9508 w9510 w9514 w9513 a9515 a9516 ⊢) <;> omega))⟩
                  · refine sw_sh (ci_sh cs11 t_p0 rfl) ?_
                    refine sw_on (sX9_put cs11 t_p0 (by (try simp only [zp, zo, zq] at u5318 xq2 h5319 xq12 h5332 xq14 a5352 u5353 h5354 h5355 h8082 h9318 w9319 w9320 r9321 r9322 r9323 h9324 h9345 h9470 ⊢) <;> (try simp only [zz, Int32.reduceToInt, ne_eq] at u5318 xq2 h5319 xq12 h5332 xq14 a5352 u5353 h5354 h5355 h8082 h9318 w9319 w9320 r9321 r9322 r9323 h9324 h9345 h9470 ⊢) <;> (try simp (disch := omega) only [zb] at u5318 xq2 h5319 xq12 h5332 xq14 a5352 u5353 h5354 h5355 h8082 h9318 w9319 w9320 r9321 r9322 r9323 h9324 h9345 h9470 ⊢) <;> first | omega | ((try simp (disch := omega) only [zb] at u5318 xq2 h5319 xq12 h5332 xq14 a5352 u5353 h5354 h5355 h8082 h9318 w9319 w9320 r9321 r9322 r9323 h9324 h9345 h9470 ⊢) <;> omega)) ) ?_
                    intro q30 hqq30
                    obtain ⟨cq30, gq30, xq30⟩ := hqq30
                    have fq30 := fr_trans fs11 gq30 rfl
                    unfold fX9_pair_264
                    refine sw_ite (fun h9517 => ?_) (fun h9517 => ?_)
                    · have w9518 := (gq30.2.2 _ _ t_p0 0 rfl).1
                      have w9519 : mm_I s11 p0 0 = mm_I q2.2 p0 0 := by rw [← es11]; exact rd_k t_p0 tq5 (by decide)
                      have w9521 := rdA_fr (k := 9) (j := 1) gq30 cs11 t_p0 (κ' := 59) rfl rfl rfl
                      have w9523 : rdA s11 p0 9 1 = mm_I s11 q17 ((1 : Int32)).toNatClampNeg := rdA_eq eq17
                      have w9522 : rdA s11 p0 9 1 = rdA q2.2 p0 9 1 := by rw [← es11]; exact rdA_k cq2 t_p0 (κ' := 59) rfl tq5 (by decide)
                      have w9524 := rdA_fr (k := 9) (j := 1) gq2 c0 t_p0 (κ' := 59) rfl rfl rfl
                      have w9526 := rdA_fr (k := 10) (j := 1) gq30 cs11 t_p0 (κ' := 60) rfl rfl rfl
                      have w9527 : rdA s11 p0 10 1 = rdA q2.2 p0 10 1 := by rw [← es11]; exact rdA_j (by decide)
                      have w9529 : rdA q2.2 p0 10 1 = mm_I q2.2 q5 ((1 : Int32)).toNatClampNeg := rdA_eq eq5
                      have w9528 := rdA_fr (k := 10) (j := 1) gq2 c0 t_p0 (κ' := 60) rfl rfl rfl
                      have w9531 := rdA_fr (k := 10) (j := 0) gq30 cs11 t_p0 (κ' := 60) rfl rfl rfl
                      have w9532 : rdA s11 p0 10 0 = -1 := by rw [← es11]; exact rdA_self eq5
                      have w9533 := rdA_fr (k := 9) (j := 0) gq30 cs11 t_p0 (κ' := 59) rfl rfl rfl
                      have w9535 : rdA s11 p0 9 0 = mm_I s11 q17 ((0 : Int32)).toNatClampNeg := rdA_eq eq17
                      have w9534 : rdA s11 p0 9 0 = rdA q2.2 p0 9 0 := by rw [← es11]; exact rdA_k cq2 t_p0 (κ' := 59) rfl tq5 (by decide)
                      have w9536 := rdA_fr (k := 9) (j := 0) gq2 c0 t_p0 (κ' := 59) rfl rfl rfl
                      have w9540 : rdA q2.2 p0 10 0 = mm_I q2.2 q5 ((0 : Int32)).toNatClampNeg := rdA_eq eq5
                      have w9539 := rdA_fr (k := 10) (j := 0) gq2 c0 t_p0 (κ' := 60) rfl rfl rfl
                      have a9541 := zi_and p3 127 (by decide)
                      have a9542 := zi_and p2 8 (by decide)
                      exact sw_some ⟨cq30, fq30, (by (try simp only [zp, zo, zq] at u5318 xq2 h5319 xq12 h5332 xq14 a5352 u5353 h5354 h5355 h8082 h9318 w9319 w9320 r9321 r9322 r9323 h9324 h9345 h9470 h9517 w9518 w9519 w9521 w9523 w9522 w9524 w9526 w9527 w9529 w9528 w9531 w9532 w9533 w9535 w9534 w9536 w9540 w9539 a9541 a9542 ⊢) <;> (try simp only [zz, Int32.reduceToInt, ne_eq] at u5318 xq2 h5319 xq12 h5332 xq14 a5352 u5353 h5354 h5355 h8082 h9318 w9319 w9320 r9321 r9322 r9323 h9324 h9345 h9470 h9517 w9518 w9519 w9521 w9523 w9522 w9524 w9526 w9527 w9529 w9528 w9531 w9532 w9533 w9535 w9534 w9536 w9540 w9539 a9541 a9542 ⊢) <;> (try simp (disch := omega) only [zb] at u5318 xq2 h5319 xq12 h5332 xq14 a5352 u5353 h5354 h5355 h8082 h9318 w9319 w9320 r9321 r9322 r9323 h9324 h9345 h9470 h9517 w9518 w9519 w9521 w9523 w9522 w9524 w9526 w9527 w9529 w9528 w9531 w9532 w9533 w9535 w9534 w9536 w9540 w9539 a9541 a9542 ⊢) <;> first | omega | ((try simp (disch := omega) only [zb] at u5318 xq2 h5319 xq12 h5332 xq14 a5352 u5353 h5354 h5355 h8082 h9318 w9319 w9320 r9321 r9322 r9323 h9324 h9345 h9470 h9517 w9518 w9519 w9521 w9523 w9522 w9524 w9526 w9527 w9529 w9528 w9531 w9532 w9533 w9535 w9534 w9536 w9540 w9539 a9541 a9542 ⊢) <;> omega))⟩
                    · refine sw_sh (ci_sh cq30 t_p0 rfl) ?_
                      refine sw_on (sX9_put cq30 t_p0 (by (try simp only [zp, zo, zq] at u5318 xq2 h5319 xq12 h5332 xq14 a5352 u5353 h5354 h5355 h8082 h9318 w9319 w9320 r9321 r9322 r9323 h9324 h9345 h9470 h9517 ⊢) <;> (try simp only [zz, Int32.reduceToInt, ne_eq] at u5318 xq2 h5319 xq12 h5332 xq14 a5352 u5353 h5354 h5355 h8082 h9318 w9319 w9320 r9321 r9322 r9323 h9324 h9345 h9470 h9517 ⊢) <;> (try simp (disch := omega) only [zb] at u5318 xq2 h5319 xq12 h5332 xq14 a5352 u5353 h5354 h5355 h8082 h9318 w9319 w9320 r9321 r9322 r9323 h9324 h9345 h9470 h9517 ⊢) <;> first | omega | ((try simp (disch := omega) only [zb] at u5318 xq2 h5319 xq12 h5332 xq14 a5352 u5353 h5354 h5355 h8082 h9318 w9319 w9320 r9321 r9322 r9323 h9324 h9345 h9470 h9517 ⊢) <;> omega)) ) ?_
                      intro q28 hqq28
                      obtain ⟨cq28, gq28, xq28⟩ := hqq28
                      have fq28 := fr_trans fq30 gq28 rfl
                      have w9543 := (gq28.2.2 _ _ t_p0 0 rfl).1
                      have w9544 := (gq30.2.2 _ _ t_p0 0 rfl).1
                      have w9545 : mm_I s11 p0 0 = mm_I q2.2 p0 0 := by rw [← es11]; exact rd_k t_p0 tq5 (by decide)
                      have w9547 := rdA_fr (k := 9) (j := 1) gq28 cq30 t_p0 (κ' := 59) rfl rfl rfl
                      have w9548 := rdA_fr (k := 9) (j := 1) gq30 cs11 t_p0 (κ' := 59) rfl rfl rfl
                      have w9550 : rdA s11 p0 9 1 = mm_I s11 q17 ((1 : Int32)).toNatClampNeg := rdA_eq eq17
                      have w9549 : rdA s11 p0 9 1 = rdA q2.2 p0 9 1 := by rw [← es11]; exact rdA_k cq2 t_p0 (κ' := 59) rfl tq5 (by decide)
                      have w9551 := rdA_fr (k := 9) (j := 1) gq2 c0 t_p0 (κ' := 59) rfl rfl rfl
                      have w9553 := rdA_fr (k := 10) (j := 1) gq28 cq30 t_p0 (κ' := 60) rfl rfl rfl
                      have w9554 := rdA_fr (k := 10) (j := 1) gq30 cs11 t_p0 (κ' := 60) rfl rfl rfl
                      have w9555 : rdA s11 p0 10 1 = rdA q2.2 p0 10 1 := by rw [← es11]; exact rdA_j (by decide)
                      have w9557 : rdA q2.2 p0 10 1 = mm_I q2.2 q5 ((1 : Int32)).toNatClampNeg := rdA_eq eq5
                      have w9556 := rdA_fr (k := 10) (j := 1) gq2 c0 t_p0 (κ' := 60) rfl rfl rfl
                      have w9559 := rdA_fr (k := 10) (j := 0) gq28 cq30 t_p0 (κ' := 60) rfl rfl rfl
                      have w9560 := rdA_fr (k := 10) (j := 0) gq30 cs11 t_p0 (κ' := 60) rfl rfl rfl
                      have w9561 : rdA s11 p0 10 0 = -1 := by rw [← es11]; exact rdA_self eq5
                      have w9562 := rdA_fr (k := 9) (j := 0) gq28 cq30 t_p0 (κ' := 59) rfl rfl rfl
                      have w9563 := rdA_fr (k := 9) (j := 0) gq30 cs11 t_p0 (κ' := 59) rfl rfl rfl
                      have w9565 : rdA s11 p0 9 0 = mm_I s11 q17 ((0 : Int32)).toNatClampNeg := rdA_eq eq17
                      have w9564 : rdA s11 p0 9 0 = rdA q2.2 p0 9 0 := by rw [← es11]; exact rdA_k cq2 t_p0 (κ' := 59) rfl tq5 (by decide)
                      have w9566 := rdA_fr (k := 9) (j := 0) gq2 c0 t_p0 (κ' := 59) rfl rfl rfl
                      have w9570 : rdA q2.2 p0 10 0 = mm_I q2.2 q5 ((0 : Int32)).toNatClampNeg := rdA_eq eq5
                      have w9569 := rdA_fr (k := 10) (j := 0) gq2 c0 t_p0 (κ' := 60) rfl rfl rfl
                      have a9571 := zi_and p3 127 (by decide)
                      have a9572 := zi_and p2 8 (by decide)
                      exact sw_some ⟨cq28, fq28, (by (try simp only [zp, zo, zq] at u5318 xq2 h5319 xq12 h5332 xq14 a5352 u5353 h5354 h5355 h8082 h9318 w9319 w9320 r9321 r9322 r9323 h9324 h9345 h9470 h9517 w9543 w9544 w9545 w9547 w9548 w9550 w9549 w9551 w9553 w9554 w9555 w9557 w9556 w9559 w9560 w9561 w9562 w9563 w9565 w9564 w9566 w9570 w9569 a9571 a9572 ⊢) <;> (try simp only [zz, Int32.reduceToInt, ne_eq] at u5318 xq2 h5319 xq12 h5332 xq14 a5352 u5353 h5354 h5355 h8082 h9318 w9319 w9320 r9321 r9322 r9323 h9324 h9345 h9470 h9517 w9543 w9544 w9545 w9547 w9548 w9550 w9549 w9551 w9553 w9554 w9555 w9557 w9556 w9559 w9560 w9561 w9562 w9563 w9565 w9564 w9566 w9570 w9569 a9571 a9572 ⊢) <;> (try simp (disch := omega) only [zb] at u5318 xq2 h5319 xq12 h5332 xq14 a5352 u5353 h5354 h5355 h8082 h9318 w9319 w9320 r9321 r9322 r9323 h9324 h9345 h9470 h9517 w9543 w9544 w9545 w9547 w9548 w9550 w9549 w9551 w9553 w9554 w9555 w9557 w9556 w9559 w9560 w9561 w9562 w9563 w9565 w9564 w9566 w9570 w9569 a9571 a9572 ⊢) <;> first | omega | ((try simp (disch := omega) only [zb] at u5318 xq2 h5319 xq12 h5332 xq14 a5352 u5353 h5354 h5355 h8082 h9318 w9319 w9320 r9321 r9322 r9323 h9324 h9345 h9470 h9517 w9543 w9544 w9545 w9547 w9548 w9550 w9549 w9551 w9553 w9554 w9555 w9557 w9556 w9559 w9560 w9561 w9562 w9563 w9565 w9564 w9566 w9570 w9569 a9571 a9572 ⊢) <;> omega))⟩
            · unfold fX9_pair_198
              refine sw_ite (fun h9573 => ?_) (fun h9573 => ?_)
              · unfold fX9_pair_227
                unfold fX9_pair_228
                have w9574 : mm_I s11 q17 ((0 : Int32).toNatClampNeg) = mm_I q2.2 q17 ((0 : Int32).toNatClampNeg) := by rw [← es11]; exact rd_k tq17 tq5 (by decide)
                have w9575 := (gq2.2.2 _ _ tq17 ((0 : Int32).toNatClampNeg) rfl).1
                have r9576 := ci_rg c0 tq17 ((0 : Int32).toNatClampNeg) (lo := (-1)) (hi := 3) rfl
                have r9577 := ci_rg cq2 tq17 ((0 : Int32).toNatClampNeg) (lo := (-1)) (hi := 3) rfl
                have r9578 := ci_rg cs11 tq17 ((0 : Int32).toNatClampNeg) (lo := (-1)) (hi := 3) rfl
                refine sw_ite (fun h9579 => ?_) (fun h9579 => ?_)
                · have w9580 : mm_I s11 p0 0 = mm_I q2.2 p0 0 := by rw [← es11]; exact rd_k t_p0 tq5 (by decide)
                  have w9583 : rdA s11 p0 9 1 = mm_I s11 q17 ((1 : Int32)).toNatClampNeg := rdA_eq eq17
                  have w9582 : rdA s11 p0 9 1 = rdA q2.2 p0 9 1 := by rw [← es11]; exact rdA_k cq2 t_p0 (κ' := 59) rfl tq5 (by decide)
                  have w9584 := rdA_fr (k := 9) (j := 1) gq2 c0 t_p0 (κ' := 59) rfl rfl rfl
                  have w9586 : rdA s11 p0 10 1 = rdA q2.2 p0 10 1 := by rw [← es11]; exact rdA_j (by decide)
                  have w9588 : rdA q2.2 p0 10 1 = mm_I q2.2 q5 ((1 : Int32)).toNatClampNeg := rdA_eq eq5
                  have w9587 := rdA_fr (k := 10) (j := 1) gq2 c0 t_p0 (κ' := 60) rfl rfl rfl
                  have w9590 : rdA s11 p0 10 0 = -1 := by rw [← es11]; exact rdA_self eq5
                  have w9592 : rdA s11 p0 9 0 = mm_I s11 q17 ((0 : Int32)).toNatClampNeg := rdA_eq eq17
                  have w9591 : rdA s11 p0 9 0 = rdA q2.2 p0 9 0 := by rw [← es11]; exact rdA_k cq2 t_p0 (κ' := 59) rfl tq5 (by decide)
                  have w9593 := rdA_fr (k := 9) (j := 0) gq2 c0 t_p0 (κ' := 59) rfl rfl rfl
                  have w9597 : rdA q2.2 p0 10 0 = mm_I q2.2 q5 ((0 : Int32)).toNatClampNeg := rdA_eq eq5
                  have w9596 := rdA_fr (k := 10) (j := 0) gq2 c0 t_p0 (κ' := 60) rfl rfl rfl
                  have a9598 := zi_and p3 127 (by decide)
                  have a9599 := zi_and p2 8 (by decide)
                  exact sw_some ⟨cs11, fs11, (by (try simp only [zp, zo, zq] at u5318 xq2 h5319 xq12 h5332 xq14 a5352 u5353 h5354 h5355 h8082 h9318 h9573 w9574 w9575 r9576 r9577 r9578 h9579 w9580 w9583 w9582 w9584 w9586 w9588 w9587 w9590 w9592 w9591 w9593 w9597 w9596 a9598 a9599 ⊢) <;> (try simp only [zz, Int32.reduceToInt, ne_eq] at u5318 xq2 h5319 xq12 h5332 xq14 a5352 u5353 h5354 h5355 h8082 h9318 h9573 w9574 w9575 r9576 r9577 r9578 h9579 w9580 w9583 w9582 w9584 w9586 w9588 w9587 w9590 w9592 w9591 w9593 w9597 w9596 a9598 a9599 ⊢) <;> (try simp (disch := omega) only [zb] at u5318 xq2 h5319 xq12 h5332 xq14 a5352 u5353 h5354 h5355 h8082 h9318 h9573 w9574 w9575 r9576 r9577 r9578 h9579 w9580 w9583 w9582 w9584 w9586 w9588 w9587 w9590 w9592 w9591 w9593 w9597 w9596 a9598 a9599 ⊢) <;> first | omega | ((try simp (disch := omega) only [zb] at u5318 xq2 h5319 xq12 h5332 xq14 a5352 u5353 h5354 h5355 h8082 h9318 h9573 w9574 w9575 r9576 r9577 r9578 h9579 w9580 w9583 w9582 w9584 w9586 w9588 w9587 w9590 w9592 w9591 w9593 w9597 w9596 a9598 a9599 ⊢) <;> omega))⟩
                · refine sw_ite (fun h9600 => ?_) (fun h9600 => ?_)
                  · refine sw_ite (fun h9601 => ?_) (fun h9601 => ?_)
                    · have w9602 : mm_I s11 p0 0 = mm_I q2.2 p0 0 := by rw [← es11]; exact rd_k t_p0 tq5 (by decide)
                      have w9605 : rdA s11 p0 9 1 = mm_I s11 q17 ((1 : Int32)).toNatClampNeg := rdA_eq eq17
                      have w9604 : rdA s11 p0 9 1 = rdA q2.2 p0 9 1 := by rw [← es11]; exact rdA_k cq2 t_p0 (κ' := 59) rfl tq5 (by decide)
                      have w9606 := rdA_fr (k := 9) (j := 1) gq2 c0 t_p0 (κ' := 59) rfl rfl rfl
                      have w9608 : rdA s11 p0 10 1 = rdA q2.2 p0 10 1 := by rw [← es11]; exact rdA_j (by decide)
                      have w9610 : rdA q2.2 p0 10 1 = mm_I q2.2 q5 ((1 : Int32)).toNatClampNeg := rdA_eq eq5
                      have w9609 := rdA_fr (k := 10) (j := 1) gq2 c0 t_p0 (κ' := 60) rfl rfl rfl
                      have w9612 : rdA s11 p0 10 0 = -1 := by rw [← es11]; exact rdA_self eq5
                      have w9614 : rdA s11 p0 9 0 = mm_I s11 q17 ((0 : Int32)).toNatClampNeg := rdA_eq eq17
                      have w9613 : rdA s11 p0 9 0 = rdA q2.2 p0 9 0 := by rw [← es11]; exact rdA_k cq2 t_p0 (κ' := 59) rfl tq5 (by decide)
                      have w9615 := rdA_fr (k := 9) (j := 0) gq2 c0 t_p0 (κ' := 59) rfl rfl rfl
                      have w9619 : rdA q2.2 p0 10 0 = mm_I q2.2 q5 ((0 : Int32)).toNatClampNeg := rdA_eq eq5
                      have w9618 := rdA_fr (k := 10) (j := 0) gq2 c0 t_p0 (κ' := 60) rfl rfl rfl
                      have a9620 := zi_and p3 127 (by decide)
                      have a9621 := zi_and p2 8 (by decide)
                      exact sw_some ⟨cs11, fs11, (by (try simp only [zp, zo, zq] at u5318 xq2 h5319 xq12 h5332 xq14 a5352 u5353 h5354 h5355 h8082 h9318 h9573 w9574 w9575 r9576 r9577 r9578 h9579 h9600 h9601 w9602 w9605 w9604 w9606 w9608 w9610 w9609 w9612 w9614 w9613 w9615 w9619 w9618 a9620 a9621 ⊢) <;> (try simp only [zz, Int32.reduceToInt, ne_eq] at u5318 xq2 h5319 xq12 h5332 xq14 a5352 u5353 h5354 h5355 h8082 h9318 h9573 w9574 w9575 r9576 r9577 r9578 h9579 h9600 h9601 w9602 w9605 w9604 w9606 w9608 w9610 w9609 w9612 w9614 w9613 w9615 w9619 w9618 a9620 a9621 ⊢) <;> (try simp (disch := omega) only [zb] at u5318 xq2 h5319 xq12 h5332 xq14 a5352 u5353 h5354 h5355 h8082 h9318 h9573 w9574 w9575 r9576 r9577 r9578 h9579 h9600 h9601 w9602 w9605 w9604 w9606 w9608 w9610 w9609 w9612 w9614 w9613 w9615 w9619 w9618 a9620 a9621 ⊢) <;> first | omega | ((try simp (disch := omega) only [zb] at u5318 xq2 h5319 xq12 h5332 xq14 a5352 u5353 h5354 h5355 h8082 h9318 h9573 w9574 w9575 r9576 r9577 r9578 h9579 h9600 h9601 w9602 w9605 w9604 w9606 w9608 w9610 w9609 w9612 w9614 w9613 w9615 w9619 w9618 a9620 a9621 ⊢) <;> omega))⟩
                    · unfold fX9_pair_250
                      refine sw_ite (fun h9622 => ?_) (fun h9622 => ?_)
                      · unfold fX9_pair_264
                        refine sw_ite (fun h9623 => ?_) (fun h9623 => ?_)
                        · have w9624 : mm_I s11 p0 0 = mm_I q2.2 p0 0 := by rw [← es11]; exact rd_k t_p0 tq5 (by decide)
                          have w9627 : rdA s11 p0 9 1 = mm_I s11 q17 ((1 : Int32)).toNatClampNeg := rdA_eq eq17
                          have w9626 : rdA s11 p0 9 1 = rdA q2.2 p0 9 1 := by rw [← es11]; exact rdA_k cq2 t_p0 (κ' := 59) rfl tq5 (by decide)
                          have w9628 := rdA_fr (k := 9) (j := 1) gq2 c0 t_p0 (κ' := 59) rfl rfl rfl
                          have w9630 : rdA s11 p0 10 1 = rdA q2.2 p0 10 1 := by rw [← es11]; exact rdA_j (by decide)
                          have w9632 : rdA q2.2 p0 10 1 = mm_I q2.2 q5 ((1 : Int32)).toNatClampNeg := rdA_eq eq5
                          have w9631 := rdA_fr (k := 10) (j := 1) gq2 c0 t_p0 (κ' := 60) rfl rfl rfl
                          have w9634 : rdA s11 p0 10 0 = -1 := by rw [← es11]; exact rdA_self eq5
                          have w9636 : rdA s11 p0 9 0 = mm_I s11 q17 ((0 : Int32)).toNatClampNeg := rdA_eq eq17
                          have w9635 : rdA s11 p0 9 0 = rdA q2.2 p0 9 0 := by rw [← es11]; exact rdA_k cq2 t_p0 (κ' := 59) rfl tq5 (by decide)
                          have w9637 := rdA_fr (k := 9) (j := 0) gq2 c0 t_p0 (κ' := 59) rfl rfl rfl
                          have w9641 : rdA q2.2 p0 10 0 = mm_I q2.2 q5 ((0 : Int32)).toNatClampNeg := rdA_eq eq5
                          have w9640 := rdA_fr (k := 10) (j := 0) gq2 c0 t_p0 (κ' := 60) rfl rfl rfl
                          have a9642 := zi_and p3 127 (by decide)
                          have a9643 := zi_and p2 8 (by decide)
                          exact sw_some ⟨cs11, fs11, (by (try simp only [zp, zo, zq] at u5318 xq2 h5319 xq12 h5332 xq14 a5352 u5353 h5354 h5355 h8082 h9318 h9573 w9574 w9575 r9576 r9577 r9578 h9579 h9600 h9601 h9622 h9623 w9624 w9627 w9626 w9628 w9630 w9632 w9631 w9634 w9636 w9635 w9637 w9641 w9640 a9642 a9643 ⊢) <;> (try simp only [zz, Int32.reduceToInt, ne_eq] at u5318 xq2 h5319 xq12 h5332 xq14 a5352 u5353 h5354 h5355 h8082 h9318 h9573 w9574 w9575 r9576 r9577 r9578 h9579 h9600 h9601 h9622 h9623 w9624 w9627 w9626 w9628 w9630 w9632 w9631 w9634 w9636 w9635 w9637 w9641 w9640 a9642 a9643 ⊢) <;> (try simp (disch := omega) only [zb] at u5318 xq2 h5319 xq12 h5332 xq14 a5352 u5353 h5354 h5355 h8082 h9318 h9573 w9574 w9575 r9576 r9577 r9578 h9579 h9600 h9601 h9622 h9623 w9624 w9627 w9626 w9628 w9630 w9632 w9631 w9634 w9636 w9635 w9637 w9641 w9640 a9642 a9643 ⊢) <;> first | omega | ((try simp (disch := omega) only [zb] at u5318 xq2 h5319 xq12 h5332 xq14 a5352 u5353 h5354 h5355 h8082 h9318 h9573 w9574 w9575 r9576 r9577 r9578 h9579 h9600 h9601 h9622 h9623 w9624 w9627 w9626 w9628 w9630 w9632 w9631 w9634 w9636 w9635 w9637 w9641 w9640 a9642 a9643 ⊢) <;> omega))⟩
                        · refine sw_sh (ci_sh cs11 t_p0 rfl) ?_
                          refine sw_on (sX9_put cs11 t_p0 (by (try simp only [zp, zo, zq] at u5318 xq2 h5319 xq12 h5332 xq14 a5352 u5353 h5354 h5355 h8082 h9318 h9573 w9574 w9575 r9576 r9577 r9578 h9579 h9600 h9601 h9622 h9623 ⊢) <;> (try simp only [zz, Int32.reduceToInt, ne_eq] at u5318 xq2 h5319 xq12 h5332 xq14 a5352 u5353 h5354 h5355 h8082 h9318 h9573 w9574 w9575 r9576 r9577 r9578 h9579 h9600 h9601 h9622 h9623 ⊢) <;> (try simp (disch := omega) only [zb] at u5318 xq2 h5319 xq12 h5332 xq14 a5352 u5353 h5354 h5355 h8082 h9318 h9573 w9574 w9575 r9576 r9577 r9578 h9579 h9600 h9601 h9622 h9623 ⊢) <;> first | omega | ((try simp (disch := omega) only [zb] at u5318 xq2 h5319 xq12 h5332 xq14 a5352 u5353 h5354 h5355 h8082 h9318 h9573 w9574 w9575 r9576 r9577 r9578 h9579 h9600 h9601 h9622 h9623 ⊢) <;> omega)) ) ?_
                          intro q28 hqq28
                          obtain ⟨cq28, gq28, xq28⟩ := hqq28
                          have fq28 := fr_trans fs11 gq28 rfl
                          have w9644 := (gq28.2.2 _ _ t_p0 0 rfl).1
                          have w9645 : mm_I s11 p0 0 = mm_I q2.2 p0 0 := by rw [← es11]; exact rd_k t_p0 tq5 (by decide)
                          have w9647 := rdA_fr (k := 9) (j := 1) gq28 cs11 t_p0 (κ' := 59) rfl rfl rfl
                          have w9649 : rdA s11 p0 9 1 = mm_I s11 q17 ((1 : Int32)).toNatClampNeg := rdA_eq eq17
                          have w9648 : rdA s11 p0 9 1 = rdA q2.2 p0 9 1 := by rw [← es11]; exact rdA_k cq2 t_p0 (κ' := 59) rfl tq5 (by decide)
                          have w9650 := rdA_fr (k := 9) (j := 1) gq2 c0 t_p0 (κ' := 59) rfl rfl rfl
                          have w9652 := rdA_fr (k := 10) (j := 1) gq28 cs11 t_p0 (κ' := 60) rfl rfl rfl
                          have w9653 : rdA s11 p0 10 1 = rdA q2.2 p0 10 1 := by rw [← es11]; exact rdA_j (by decide)
                          have w9655 : rdA q2.2 p0 10 1 = mm_I q2.2 q5 ((1 : Int32)).toNatClampNeg := rdA_eq eq5
                          have w9654 := rdA_fr (k := 10) (j := 1) gq2 c0 t_p0 (κ' := 60) rfl rfl rfl
                          have w9657 := rdA_fr (k := 10) (j := 0) gq28 cs11 t_p0 (κ' := 60) rfl rfl rfl
                          have w9658 : rdA s11 p0 10 0 = -1 := by rw [← es11]; exact rdA_self eq5
                          have w9659 := rdA_fr (k := 9) (j := 0) gq28 cs11 t_p0 (κ' := 59) rfl rfl rfl
                          have w9661 : rdA s11 p0 9 0 = mm_I s11 q17 ((0 : Int32)).toNatClampNeg := rdA_eq eq17
                          have w9660 : rdA s11 p0 9 0 = rdA q2.2 p0 9 0 := by rw [← es11]; exact rdA_k cq2 t_p0 (κ' := 59) rfl tq5 (by decide)
                          have w9662 := rdA_fr (k := 9) (j := 0) gq2 c0 t_p0 (κ' := 59) rfl rfl rfl
                          have w9666 : rdA q2.2 p0 10 0 = mm_I q2.2 q5 ((0 : Int32)).toNatClampNeg := rdA_eq eq5
                          have w9665 := rdA_fr (k := 10) (j := 0) gq2 c0 t_p0 (κ' := 60) rfl rfl rfl
                          have a9667 := zi_and p3 127 (by decide)
                          have a9668 := zi_and p2 8 (by decide)
                          exact sw_some ⟨cq28, fq28, (by (try simp only [zp, zo, zq] at u5318 xq2 h5319 xq12 h5332 xq14 a5352 u5353 h5354 h5355 h8082 h9318 h9573 w9574 w9575 r9576 r9577 r9578 h9579 h9600 h9601 h9622 h9623 w9644 w9645 w9647 w9649 w9648 w9650 w9652 w9653 w9655 w9654 w9657 w9658 w9659 w9661 w9660 w9662 w9666 w9665 a9667 a9668 ⊢) <;> (try simp only [zz, Int32.reduceToInt, ne_eq] at u5318 xq2 h5319 xq12 h5332 xq14 a5352 u5353 h5354 h5355 h8082 h9318 h9573 w9574 w9575 r9576 r9577 r9578 h9579 h9600 h9601 h9622 h9623 w9644 w9645 w9647 w9649 w9648 w9650 w9652 w9653 w9655 w9654 w9657 w9658 w9659 w9661 w9660 w9662 w9666 w9665 a9667 a9668 ⊢) <;> (try simp (disch := omega) only [zb] at u5318 xq2 h5319 xq12 h5332 xq14 a5352 u5353 h5354 h5355 h8082 h9318 h9573 w9574 w9575 r9576 r9577 r9578 h9579 h9600 h9601 h9622 h9623 w9644 w9645 w9647 w9649 w9648 w9650 w9652 w9653 w9655 w9654 w9657 w9658 w9659 w9661 w9660 w9662 w9666 w9665 a9667 a9668 ⊢) <;> first | omega | ((try simp (disch := omega) only [zb] at u5318 xq2 h5319 xq12 h5332 xq14 a5352 u5353 h5354 h5355 h8082 h9318 h9573 w9574 w9575 r9576 r9577 r9578 h9579 h9600 h9601 h9622 h9623 w9644 w9645 w9647 w9649 w9648 w9650 w9652 w9653 w9655 w9654 w9657 w9658 w9659 w9661 w9660 w9662 w9666 w9665 a9667 a9668 ⊢) <;> omega))⟩
                      · refine sw_sh (ci_sh cs11 t_p0 rfl) ?_
                        refine sw_on (sX9_put cs11 t_p0 (by (try simp only [zp, zo, zq] at u5318 xq2 h5319 xq12 h5332 xq14 a5352 u5353 h5354 h5355 h8082 h9318 h9573 w9574 w9575 r9576 r9577 r9578 h9579 h9600 h9601 h9622 ⊢) <;> (try simp only [zz, Int32.reduceToInt, ne_eq] at u5318 xq2 h5319 xq12 h5332 xq14 a5352 u5353 h5354 h5355 h8082 h9318 h9573 w9574 w9575 r9576 r9577 r9578 h9579 h9600 h9601 h9622 ⊢) <;> (try simp (disch := omega) only [zb] at u5318 xq2 h5319 xq12 h5332 xq14 a5352 u5353 h5354 h5355 h8082 h9318 h9573 w9574 w9575 r9576 r9577 r9578 h9579 h9600 h9601 h9622 ⊢) <;> first | omega | ((try simp (disch := omega) only [zb] at u5318 xq2 h5319 xq12 h5332 xq14 a5352 u5353 h5354 h5355 h8082 h9318 h9573 w9574 w9575 r9576 r9577 r9578 h9579 h9600 h9601 h9622 ⊢) <;> omega)) ) ?_
                        intro q30 hqq30
                        obtain ⟨cq30, gq30, xq30⟩ := hqq30
                        have fq30 := fr_trans fs11 gq30 rfl
                        unfold fX9_pair_264
                        refine sw_ite (fun h9669 => ?_) (fun h9669 => ?_)
                        · have w9670 := (gq30.2.2 _ _ t_p0 0 rfl).1
                          have w9671 : mm_I s11 p0 0 = mm_I q2.2 p0 0 := by rw [← es11]; exact rd_k t_p0 tq5 (by decide)
                          have w9673 := rdA_fr (k := 9) (j := 1) gq30 cs11 t_p0 (κ' := 59) rfl rfl rfl
                          have w9675 : rdA s11 p0 9 1 = mm_I s11 q17 ((1 : Int32)).toNatClampNeg := rdA_eq eq17
                          have w9674 : rdA s11 p0 9 1 = rdA q2.2 p0 9 1 := by rw [← es11]; exact rdA_k cq2 t_p0 (κ' := 59) rfl tq5 (by decide)
                          have w9676 := rdA_fr (k := 9) (j := 1) gq2 c0 t_p0 (κ' := 59) rfl rfl rfl
                          have w9678 := rdA_fr (k := 10) (j := 1) gq30 cs11 t_p0 (κ' := 60) rfl rfl rfl
                          have w9679 : rdA s11 p0 10 1 = rdA q2.2 p0 10 1 := by rw [← es11]; exact rdA_j (by decide)
                          have w9681 : rdA q2.2 p0 10 1 = mm_I q2.2 q5 ((1 : Int32)).toNatClampNeg := rdA_eq eq5
                          have w9680 := rdA_fr (k := 10) (j := 1) gq2 c0 t_p0 (κ' := 60) rfl rfl rfl
                          have w9683 := rdA_fr (k := 10) (j := 0) gq30 cs11 t_p0 (κ' := 60) rfl rfl rfl
                          have w9684 : rdA s11 p0 10 0 = -1 := by rw [← es11]; exact rdA_self eq5
                          have w9685 := rdA_fr (k := 9) (j := 0) gq30 cs11 t_p0 (κ' := 59) rfl rfl rfl
                          have w9687 : rdA s11 p0 9 0 = mm_I s11 q17 ((0 : Int32)).toNatClampNeg := rdA_eq eq17
                          have w9686 : rdA s11 p0 9 0 = rdA q2.2 p0 9 0 := by rw [← es11]; exact rdA_k cq2 t_p0 (κ' := 59) rfl tq5 (by decide)
                          have w9688 := rdA_fr (k := 9) (j := 0) gq2 c0 t_p0 (κ' := 59) rfl rfl rfl
                          have w9692 : rdA q2.2 p0 10 0 = mm_I q2.2 q5 ((0 : Int32)).toNatClampNeg := rdA_eq eq5
                          have w9691 := rdA_fr (k := 10) (j := 0) gq2 c0 t_p0 (κ' := 60) rfl rfl rfl
                          have a9693 := zi_and p3 127 (by decide)
                          have a9694 := zi_and p2 8 (by decide)
                          exact sw_some ⟨cq30, fq30, (by (try simp only [zp, zo, zq] at u5318 xq2 h5319 xq12 h5332 xq14 a5352 u5353 h5354 h5355 h8082 h9318 h9573 w9574 w9575 r9576 r9577 r9578 h9579 h9600 h9601 h9622 h9669 w9670 w9671 w9673 w9675 w9674 w9676 w9678 w9679 w9681 w9680 w9683 w9684 w9685 w9687 w9686 w9688 w9692 w9691 a9693 a9694 ⊢) <;> (try simp only [zz, Int32.reduceToInt, ne_eq] at u5318 xq2 h5319 xq12 h5332 xq14 a5352 u5353 h5354 h5355 h8082 h9318 h9573 w9574 w9575 r9576 r9577 r9578 h9579 h9600 h9601 h9622 h9669 w9670 w9671 w9673 w9675 w9674 w9676 w9678 w9679 w9681 w9680 w9683 w9684 w9685 w9687 w9686 w9688 w9692 w9691 a9693 a9694 ⊢) <;> (try simp (disch := omega) only [zb] at u5318 xq2 h5319 xq12 h5332 xq14 a5352 u5353 h5354 h5355 h8082 h9318 h9573 w9574 w9575 r9576 r9577 r9578 h9579 h9600 h9601 h9622 h9669 w9670 w9671 w9673 w9675 w9674 w9676 w9678 w9679 w9681 w9680 w9683 w9684 w9685 w9687 w9686 w9688 w9692 w9691 a9693 a9694 ⊢) <;> first | omega | ((try simp (disch := omega) only [zb] at u5318 xq2 h5319 xq12 h5332 xq14 a5352 u5353 h5354 h5355 h8082 h9318 h9573 w9574 w9575 r9576 r9577 r9578 h9579 h9600 h9601 h9622 h9669 w9670 w9671 w9673 w9675 w9674 w9676 w9678 w9679 w9681 w9680 w9683 w9684 w9685 w9687 w9686 w9688 w9692 w9691 a9693 a9694 ⊢) <;> omega))⟩
                        · refine sw_sh (ci_sh cq30 t_p0 rfl) ?_
                          refine sw_on (sX9_put cq30 t_p0 (by (try simp only [zp, zo, zq] at u5318 xq2 h5319 xq12 h5332 xq14 a5352 u5353 h5354 h5355 h8082 h9318 h9573 w9574 w9575 r9576 r9577 r9578 h9579 h9600 h9601 h9622 h9669 ⊢) <;> (try simp only [zz, Int32.reduceToInt, ne_eq] at u5318 xq2 h5319 xq12 h5332 xq14 a5352 u5353 h5354 h5355 h8082 h9318 h9573 w9574 w9575 r9576 r9577 r9578 h9579 h9600 h9601 h9622 h9669 ⊢) <;> (try simp (disch := omega) only [zb] at u5318 xq2 h5319 xq12 h5332 xq14 a5352 u5353 h5354 h5355 h8082 h9318 h9573 w9574 w9575 r9576 r9577 r9578 h9579 h9600 h9601 h9622 h9669 ⊢) <;> first | omega | ((try simp (disch := omega) only [zb] at u5318 xq2 h5319 xq12 h5332 xq14 a5352 u5353 h5354 h5355 h8082 h9318 h9573 w9574 w9575 r9576 r9577 r9578 h9579 h9600 h9601 h9622 h9669 ⊢) <;> omega)) ) ?_
                          intro q28 hqq28
                          obtain ⟨cq28, gq28, xq28⟩ := hqq28
                          have fq28 := fr_trans fq30 gq28 rfl
                          have w9695 := (gq28.2.2 _ _ t_p0 0 rfl).1
                          have w9696 := (gq30.2.2 _ _ t_p0 0 rfl).1
                          have w9697 : mm_I s11 p0 0 = mm_I q2.2 p0 0 := by rw [← es11]; exact rd_k t_p0 tq5 (by decide)
                          have w9699 := rdA_fr (k := 9) (j := 1) gq28 cq30 t_p0 (κ' := 59) rfl rfl rfl
                          have w9700 := rdA_fr (k := 9) (j := 1) gq30 cs11 t_p0 (κ' := 59) rfl rfl rfl
                          have w9702 : rdA s11 p0 9 1 = mm_I s11 q17 ((1 : Int32)).toNatClampNeg := rdA_eq eq17
                          have w9701 : rdA s11 p0 9 1 = rdA q2.2 p0 9 1 := by rw [← es11]; exact rdA_k cq2 t_p0 (κ' := 59) rfl tq5 (by decide)
                          have w9703 := rdA_fr (k := 9) (j := 1) gq2 c0 t_p0 (κ' := 59) rfl rfl rfl
                          have w9705 := rdA_fr (k := 10) (j := 1) gq28 cq30 t_p0 (κ' := 60) rfl rfl rfl
                          have w9706 := rdA_fr (k := 10) (j := 1) gq30 cs11 t_p0 (κ' := 60) rfl rfl rfl
                          have w9707 : rdA s11 p0 10 1 = rdA q2.2 p0 10 1 := by rw [← es11]; exact rdA_j (by decide)
                          have w9709 : rdA q2.2 p0 10 1 = mm_I q2.2 q5 ((1 : Int32)).toNatClampNeg := rdA_eq eq5
                          have w9708 := rdA_fr (k := 10) (j := 1) gq2 c0 t_p0 (κ' := 60) rfl rfl rfl
                          have w9711 := rdA_fr (k := 10) (j := 0) gq28 cq30 t_p0 (κ' := 60) rfl rfl rfl
                          have w9712 := rdA_fr (k := 10) (j := 0) gq30 cs11 t_p0 (κ' := 60) rfl rfl rfl
                          have w9713 : rdA s11 p0 10 0 = -1 := by rw [← es11]; exact rdA_self eq5
                          have w9714 := rdA_fr (k := 9) (j := 0) gq28 cq30 t_p0 (κ' := 59) rfl rfl rfl
                          have w9715 := rdA_fr (k := 9) (j := 0) gq30 cs11 t_p0 (κ' := 59) rfl rfl rfl
                          have w9717 : rdA s11 p0 9 0 = mm_I s11 q17 ((0 : Int32)).toNatClampNeg := rdA_eq eq17
                          have w9716 : rdA s11 p0 9 0 = rdA q2.2 p0 9 0 := by rw [← es11]; exact rdA_k cq2 t_p0 (κ' := 59) rfl tq5 (by decide)
                          have w9718 := rdA_fr (k := 9) (j := 0) gq2 c0 t_p0 (κ' := 59) rfl rfl rfl
                          have w9722 : rdA q2.2 p0 10 0 = mm_I q2.2 q5 ((0 : Int32)).toNatClampNeg := rdA_eq eq5
                          have w9721 := rdA_fr (k := 10) (j := 0) gq2 c0 t_p0 (κ' := 60) rfl rfl rfl
                          have a9723 := zi_and p3 127 (by decide)
                          have a9724 := zi_and p2 8 (by decide)
                          exact sw_some ⟨cq28, fq28, (by (try simp only [zp, zo, zq] at u5318 xq2 h5319 xq12 h5332 xq14 a5352 u5353 h5354 h5355 h8082 h9318 h9573 w9574 w9575 r9576 r9577 r9578 h9579 h9600 h9601 h9622 h9669 w9695 w9696 w9697 w9699 w9700 w9702 w9701 w9703 w9705 w9706 w9707 w9709 w9708 w9711 w9712 w9713 w9714 w9715 w9717 w9716 w9718 w9722 w9721 a9723 a9724 ⊢) <;> (try simp only [zz, Int32.reduceToInt, ne_eq] at u5318 xq2 h5319 xq12 h5332 xq14 a5352 u5353 h5354 h5355 h8082 h9318 h9573 w9574 w9575 r9576 r9577 r9578 h9579 h9600 h9601 h9622 h9669 w9695 w9696 w9697 w9699 w9700 w9702 w9701 w9703 w9705 w9706 w9707 w9709 w9708 w9711 w9712 w9713 w9714 w9715 w9717 w9716 w9718 w9722 w9721 a9723 a9724 ⊢) <;> (try simp (disch := omega) only [zb] at u5318 xq2 h5319 xq12 h5332 xq14 a5352 u5353 h5354 h5355 h8082 h9318 h9573 w9574 w9575 r9576 r9577 r9578 h9579 h9600 h9601 h9622 h9669 w9695 w9696 w9697 w9699 w9700 w9702 w9701 w9703 w9705 w9706 w9707 w9709 w9708 w9711 w9712 w9713 w9714 w9715 w9717 w9716 w9718 w9722 w9721 a9723 a9724 ⊢) <;> first | omega | ((try simp (disch := omega) only [zb] at u5318 xq2 h5319 xq12 h5332 xq14 a5352 u5353 h5354 h5355 h8082 h9318 h9573 w9574 w9575 r9576 r9577 r9578 h9579 h9600 h9601 h9622 h9669 w9695 w9696 w9697 w9699 w9700 w9702 w9701 w9703 w9705 w9706 w9707 w9709 w9708 w9711 w9712 w9713 w9714 w9715 w9717 w9716 w9718 w9722 w9721 a9723 a9724 ⊢) <;> omega))⟩
                  · unfold fX9_pair_250
                    refine sw_ite (fun h9725 => ?_) (fun h9725 => ?_)
                    · unfold fX9_pair_264
                      refine sw_ite (fun h9726 => ?_) (fun h9726 => ?_)
                      · have w9727 : mm_I s11 p0 0 = mm_I q2.2 p0 0 := by rw [← es11]; exact rd_k t_p0 tq5 (by decide)
                        have w9730 : rdA s11 p0 9 1 = mm_I s11 q17 ((1 : Int32)).toNatClampNeg := rdA_eq eq17
                        have w9729 : rdA s11 p0 9 1 = rdA q2.2 p0 9 1 := by rw [← es11]; exact rdA_k cq2 t_p0 (κ' := 59) rfl tq5 (by decide)
                        have w9731 := rdA_fr (k := 9) (j := 1) gq2 c0 t_p0 (κ' := 59) rfl rfl rfl
                        have w9733 : rdA s11 p0 10 1 = rdA q2.2 p0 10 1 := by rw [← es11]; exact rdA_j (by decide)
                        have w9735 : rdA q2.2 p0 10 1 = mm_I q2.2 q5 ((1 : Int32)).toNatClampNeg := rdA_eq eq5
                        have w9734 := rdA_fr (k := 10) (j := 1) gq2 c0 t_p0 (κ' := 60) rfl rfl rfl
                        have w9737 : rdA s11 p0 10 0 = -1 := by rw [← es11]; exact rdA_self eq5
                        have w9739 : rdA s11 p0 9 0 = mm_I s11 q17 ((0 : Int32)).toNatClampNeg := rdA_eq eq17
                        have w9738 : rdA s11 p0 9 0 = rdA q2.2 p0 9 0 := by rw [← es11]; exact rdA_k cq2 t_p0 (κ' := 59) rfl tq5 (by decide)
                        have w9740 := rdA_fr (k := 9) (j := 0) gq2 c0 t_p0 (κ' := 59) rfl rfl rfl
                        have w9744 : rdA q2.2 p0 10 0 = mm_I q2.2 q5 ((0 : Int32)).toNatClampNeg := rdA_eq eq5
                        have w9743 := rdA_fr (k := 10) (j := 0) gq2 c0 t_p0 (κ' := 60) rfl rfl rfl
                        have a9745 := zi_and p3 127 (by decide)
                        have a9746 := zi_and p2 8 (by decide)
                        exact sw_some ⟨cs11, fs11, (by (try simp only [zp, zo, zq] at u5318 xq2 h5319 xq12 h5332 xq14 a5352 u5353 h5354 h5355 h8082 h9318 h9573 w9574 w9575 r9576 r9577 r9578 h9579 h9600 h9725 h9726 w9727 w9730 w9729 w9731 w9733 w9735 w9734 w9737 w9739 w9738 w9740 w9744 w9743 a9745 a9746 ⊢) <;> (try simp only [zz, Int32.reduceToInt, ne_eq] at u5318 xq2 h5319 xq12 h5332 xq14 a5352 u5353 h5354 h5355 h8082 h9318 h9573 w9574 w9575 r9576 r9577 r9578 h9579 h9600 h9725 h9726 w9727 w9730 w9729 w9731 w9733 w9735 w9734 w9737 w9739 w9738 w9740 w9744 w9743 a9745 a9746 ⊢) <;> (try simp (disch := omega) only [zb] at u5318 xq2 h5319 xq12 h5332 xq14 a5352 u5353 h5354 h5355 h8082 h9318 h9573 w9574 w9575 r9576 r9577 r9578 h9579 h9600 h9725 h9726 w9727 w9730 w9729 w9731 w9733 w9735 w9734 w9737 w9739 w9738 w9740 w9744 w9743 a9745 a9746 ⊢) <;> first | omega | ((try simp (disch := omega) only [zb] at u5318 xq2 h5319 xq12 h5332 xq14 a5352 u5353 h5354 h5355 h8082 h9318 h9573 w9574 w9575 r9576 r9577 r9578 h9579 h9600 h9725 h9726 w9727 w9730 w9729 w9731 w9733 w9735 w9734 w9737 w9739 w9738 w9740 w9744 w9743 a9745 a9746 ⊢) <;> omega))⟩
                      · refine sw_sh (ci_sh cs11 t_p0 rfl) ?_
                        refine sw_on (sX9_put cs11 t_p0 (by (try simp only [zp, zo, zq] at u5318 xq2 h5319 xq12 h5332 xq14 a5352 u5353 h5354 h5355 h8082 h9318 h9573 w9574 w9575 r9576 r9577 r9578 h9579 h9600 h9725 h9726 ⊢) <;> (try simp only [zz, Int32.reduceToInt, ne_eq] at u5318 xq2 h5319 xq12 h5332 xq14 a5352 u5353 h5354 h5355 h8082 h9318 h9573 w9574 w9575 r9576 r9577 r9578 h9579 h9600 h9725 h9726 ⊢) <;> (try simp (disch := omega) only [zb] at u5318 xq2 h5319 xq12 h5332 xq14 a5352 u5353 h5354 h5355 h8082 h9318 h9573 w9574 w9575 r9576 r9577 r9578 h9579 h9600 h9725 h9726 ⊢) <;> first | omega | ((try simp (disch := omega) only [zb] at u5318 xq2 h5319 xq12 h5332 xq14 a5352 u5353 h5354 h5355 h8082 h9318 h9573 w9574 w9575 r9576 r9577 r9578 h9579 h9600 h9725 h9726 ⊢) <;> omega)) ) ?_
                        intro q28 hqq28
                        obtain ⟨cq28, gq28, xq28⟩ := hqq28
                        have fq28 := fr_trans fs11 gq28 rfl
                        have w9747 := (gq28.2.2 _ _ t_p0 0 rfl).1
                        have w9748 : mm_I s11 p0 0 = mm_I q2.2 p0 0 := by rw [← es11]; exact rd_k t_p0 tq5 (by decide)
                        have w9750 := rdA_fr (k := 9) (j := 1) gq28 cs11 t_p0 (κ' := 59) rfl rfl rfl
                        have w9752 : rdA s11 p0 9 1 = mm_I s11 q17 ((1 : Int32)).toNatClampNeg := rdA_eq eq17
                        have w9751 : rdA s11 p0 9 1 = rdA q2.2 p0 9 1 := by rw [← es11]; exact rdA_k cq2 t_p0 (κ' := 59) rfl tq5 (by decide)
                        have w9753 := rdA_fr (k := 9) (j := 1) gq2 c0 t_p0 (κ' := 59) rfl rfl rfl
                        have w9755 := rdA_fr (k := 10) (j := 1) gq28 cs11 t_p0 (κ' := 60) rfl rfl rfl
                        have w9756 : rdA s11 p0 10 1 = rdA q2.2 p0 10 1 := by rw [← es11]; exact rdA_j (by decide)
                        have w9758 : rdA q2.2 p0 10 1 = mm_I q2.2 q5 ((1 : Int32)).toNatClampNeg := rdA_eq eq5
                        have w9757 := rdA_fr (k := 10) (j := 1) gq2 c0 t_p0 (κ' := 60) rfl rfl rfl
                        have w9760 := rdA_fr (k := 10) (j := 0) gq28 cs11 t_p0 (κ' := 60) rfl rfl rfl
                        have w9761 : rdA s11 p0 10 0 = -1 := by rw [← es11]; exact rdA_self eq5
                        have w9762 := rdA_fr (k := 9) (j := 0) gq28 cs11 t_p0 (κ' := 59) rfl rfl rfl
                        have w9764 : rdA s11 p0 9 0 = mm_I s11 q17 ((0 : Int32)).toNatClampNeg := rdA_eq eq17
                        have w9763 : rdA s11 p0 9 0 = rdA q2.2 p0 9 0 := by rw [← es11]; exact rdA_k cq2 t_p0 (κ' := 59) rfl tq5 (by decide)
                        have w9765 := rdA_fr (k := 9) (j := 0) gq2 c0 t_p0 (κ' := 59) rfl rfl rfl
                        have w9769 : rdA q2.2 p0 10 0 = mm_I q2.2 q5 ((0 : Int32)).toNatClampNeg := rdA_eq eq5
                        have w9768 := rdA_fr (k := 10) (j := 0) gq2 c0 t_p0 (κ' := 60) rfl rfl rfl
                        have a9770 := zi_and p3 127 (by decide)
                        have a9771 := zi_and p2 8 (by decide)
                        exact sw_some ⟨cq28, fq28, (by (try simp only [zp, zo, zq] at u5318 xq2 h5319 xq12 h5332 xq14 a5352 u5353 h5354 h5355 h8082 h9318 h9573 w9574 w9575 r9576 r9577 r9578 h9579 h9600 h9725 h9726 w9747 w9748 w9750 w9752 w9751 w9753 w9755 w9756 w9758 w9757 w9760 w9761 w9762 w9764 w9763 w9765 w9769 w9768 a9770 a9771 ⊢) <;> (try simp only [zz, Int32.reduceToInt, ne_eq] at u5318 xq2 h5319 xq12 h5332 xq14 a5352 u5353 h5354 h5355 h8082 h9318 h9573 w9574 w9575 r9576 r9577 r9578 h9579 h9600 h9725 h9726 w9747 w9748 w9750 w9752 w9751 w9753 w9755 w9756 w9758 w9757 w9760 w9761 w9762 w9764 w9763 w9765 w9769 w9768 a9770 a9771 ⊢) <;> (try simp (disch := omega) only [zb] at u5318 xq2 h5319 xq12 h5332 xq14 a5352 u5353 h5354 h5355 h8082 h9318 h9573 w9574 w9575 r9576 r9577 r9578 h9579 h9600 h9725 h9726 w9747 w9748 w9750 w9752 w9751 w9753 w9755 w9756 w9758 w9757 w9760 w9761 w9762 w9764 w9763 w9765 w9769 w9768 a9770 a9771 ⊢) <;> first | omega | ((try simp (disch := omega) only [zb] at u5318 xq2 h5319 xq12 h5332 xq14 a5352 u5353 h5354 h5355 h8082 h9318 h9573 w9574 w9575 r9576 r9577 r9578 h9579 h9600 h9725 h9726 w9747 w9748 w9750 w9752 w9751 w9753 w9755 w9756 w9758 w9757 w9760 w9761 w9762 w9764 w9763 w9765 w9769 w9768 a9770 a9771 ⊢) <;> omega))⟩
                    · refine sw_sh (ci_sh cs11 t_p0 rfl) ?_
                      refine sw_on (sX9_put cs11 t_p0 (by (try simp only [zp, zo, zq] at u5318 xq2 h5319 xq12 h5332 xq14 a5352 u5353 h5354 h5355 h8082 h9318 h9573 w9574 w9575 r9576 r9577 r9578 h9579 h9600 h9725 ⊢) <;> (try simp only [zz, Int32.reduceToInt, ne_eq] at u5318 xq2 h5319 xq12 h5332 xq14 a5352 u5353 h5354 h5355 h8082 h9318 h9573 w9574 w9575 r9576 r9577 r9578 h9579 h9600 h9725 ⊢) <;> (try simp (disch := omega) only [zb] at u5318 xq2 h5319 xq12 h5332 xq14 a5352 u5353 h5354 h5355 h8082 h9318 h9573 w9574 w9575 r9576 r9577 r9578 h9579 h9600 h9725 ⊢) <;> first | omega | ((try simp (disch := omega) only [zb] at u5318 xq2 h5319 xq12 h5332 xq14 a5352 u5353 h5354 h5355 h8082 h9318 h9573 w9574 w9575 r9576 r9577 r9578 h9579 h9600 h9725 ⊢) <;> omega)) ) ?_
                      intro q30 hqq30
                      obtain ⟨cq30, gq30, xq30⟩ := hqq30
                      have fq30 := fr_trans fs11 gq30 rfl
                      unfold fX9_pair_264
                      refine sw_ite (fun h9772 => ?_) (fun h9772 => ?_)
                      · have w9773 := (gq30.2.2 _ _ t_p0 0 rfl).1
                        have w9774 : mm_I s11 p0 0 = mm_I q2.2 p0 0 := by rw [← es11]; exact rd_k t_p0 tq5 (by decide)
                        have w9776 := rdA_fr (k := 9) (j := 1) gq30 cs11 t_p0 (κ' := 59) rfl rfl rfl
                        have w9778 : rdA s11 p0 9 1 = mm_I s11 q17 ((1 : Int32)).toNatClampNeg := rdA_eq eq17
                        have w9777 : rdA s11 p0 9 1 = rdA q2.2 p0 9 1 := by rw [← es11]; exact rdA_k cq2 t_p0 (κ' := 59) rfl tq5 (by decide)
                        have w9779 := rdA_fr (k := 9) (j := 1) gq2 c0 t_p0 (κ' := 59) rfl rfl rfl
                        have w9781 := rdA_fr (k := 10) (j := 1) gq30 cs11 t_p0 (κ' := 60) rfl rfl rfl
                        have w9782 : rdA s11 p0 10 1 = rdA q2.2 p0 10 1 := by rw [← es11]; exact rdA_j (by decide)
                        have w9784 : rdA q2.2 p0 10 1 = mm_I q2.2 q5 ((1 : Int32)).toNatClampNeg := rdA_eq eq5
                        have w9783 := rdA_fr (k := 10) (j := 1) gq2 c0 t_p0 (κ' := 60) rfl rfl rfl
                        have w9786 := rdA_fr (k := 10) (j := 0) gq30 cs11 t_p0 (κ' := 60) rfl rfl rfl
                        have w9787 : rdA s11 p0 10 0 = -1 := by rw [← es11]; exact rdA_self eq5
                        have w9788 := rdA_fr (k := 9) (j := 0) gq30 cs11 t_p0 (κ' := 59) rfl rfl rfl
                        have w9790 : rdA s11 p0 9 0 = mm_I s11 q17 ((0 : Int32)).toNatClampNeg := rdA_eq eq17
                        have w9789 : rdA s11 p0 9 0 = rdA q2.2 p0 9 0 := by rw [← es11]; exact rdA_k cq2 t_p0 (κ' := 59) rfl tq5 (by decide)
                        have w9791 := rdA_fr (k := 9) (j := 0) gq2 c0 t_p0 (κ' := 59) rfl rfl rfl
                        have w9795 : rdA q2.2 p0 10 0 = mm_I q2.2 q5 ((0 : Int32)).toNatClampNeg := rdA_eq eq5
                        have w9794 := rdA_fr (k := 10) (j := 0) gq2 c0 t_p0 (κ' := 60) rfl rfl rfl
                        have a9796 := zi_and p3 127 (by decide)
                        have a9797 := zi_and p2 8 (by decide)
                        exact sw_some ⟨cq30, fq30, (by (try simp only [zp, zo, zq] at u5318 xq2 h5319 xq12 h5332 xq14 a5352 u5353 h5354 h5355 h8082 h9318 h9573 w9574 w9575 r9576 r9577 r9578 h9579 h9600 h9725 h9772 w9773 w9774 w9776 w9778 w9777 w9779 w9781 w9782 w9784 w9783 w9786 w9787 w9788 w9790 w9789 w9791 w9795 w9794 a9796 a9797 ⊢) <;> (try simp only [zz, Int32.reduceToInt, ne_eq] at u5318 xq2 h5319 xq12 h5332 xq14 a5352 u5353 h5354 h5355 h8082 h9318 h9573 w9574 w9575 r9576 r9577 r9578 h9579 h9600 h9725 h9772 w9773 w9774 w9776 w9778 w9777 w9779 w9781 w9782 w9784 w9783 w9786 w9787 w9788 w9790 w9789 w9791 w9795 w9794 a9796 a9797 ⊢) <;> (try simp (disch := omega) only [zb] at u5318 xq2 h5319 xq12 h5332 xq14 a5352 u5353 h5354 h5355 h8082 h9318 h9573 w9574 w9575 r9576 r9577 r9578 h9579 h9600 h9725 h9772 w9773 w9774 w9776 w9778 w9777 w9779 w9781 w9782 w9784 w9783 w9786 w9787 w9788 w9790 w9789 w9791 w9795 w9794 a9796 a9797 ⊢) <;> first | omega | ((try simp (disch := omega) only [zb] at u5318 xq2 h5319 xq12 h5332 xq14 a5352 u5353 h5354 h5355 h8082 h9318 h9573 w9574 w9575 r9576 r9577 r9578 h9579 h9600 h9725 h9772 w9773 w9774 w9776 w9778 w9777 w9779 w9781 w9782 w9784 w9783 w9786 w9787 w9788 w9790 w9789 w9791 w9795 w9794 a9796 a9797 ⊢) <;> omega))⟩
                      · refine sw_sh (ci_sh cq30 t_p0 rfl) ?_
                        refine sw_on (sX9_put cq30 t_p0 (by (try simp only [zp, zo, zq] at u5318 xq2 h5319 xq12 h5332 xq14 a5352 u5353 h5354 h5355 h8082 h9318 h9573 w9574 w9575 r9576 r9577 r9578 h9579 h9600 h9725 h9772 ⊢) <;> (try simp only [zz, Int32.reduceToInt, ne_eq] at u5318 xq2 h5319 xq12 h5332 xq14 a5352 u5353 h5354 h5355 h8082 h9318 h9573 w9574 w9575 r9576 r9577 r9578 h9579 h9600 h9725 h9772 ⊢) <;> (try simp (disch := omega) only [zb] at u5318 xq2 h5319 xq12 h5332 xq14 a5352 u5353 h5354 h5355 h8082 h9318 h9573 w9574 w9575 r9576 r9577 r9578 h9579 h9600 h9725 h9772 ⊢) <;> first | omega | ((try simp (disch := omega) only [zb] at u5318 xq2 h5319 xq12 h5332 xq14 a5352 u5353 h5354 h5355 h8082 h9318 h9573 w9574 w9575 r9576 r9577 r9578 h9579 h9600 h9725 h9772 ⊢) <;> omega)) ) ?_
                        intro q28 hqq28
                        obtain ⟨cq28, gq28, xq28⟩ := hqq28
                        have fq28 := fr_trans fq30 gq28 rfl
                        have w9798 := (gq28.2.2 _ _ t_p0 0 rfl).1
                        have w9799 := (gq30.2.2 _ _ t_p0 0 rfl).1
                        have w9800 : mm_I s11 p0 0 = mm_I q2.2 p0 0 := by rw [← es11]; exact rd_k t_p0 tq5 (by decide)
                        have w9802 := rdA_fr (k := 9) (j := 1) gq28 cq30 t_p0 (κ' := 59) rfl rfl rfl
                        have w9803 := rdA_fr (k := 9) (j := 1) gq30 cs11 t_p0 (κ' := 59) rfl rfl rfl
                        have w9805 : rdA s11 p0 9 1 = mm_I s11 q17 ((1 : Int32)).toNatClampNeg := rdA_eq eq17
                        have w9804 : rdA s11 p0 9 1 = rdA q2.2 p0 9 1 := by rw [← es11]; exact rdA_k cq2 t_p0 (κ' := 59) rfl tq5 (by decide)
                        have w9806 := rdA_fr (k := 9) (j := 1) gq2 c0 t_p0 (κ' := 59) rfl rfl rfl
                        have w9808 := rdA_fr (k := 10) (j := 1) gq28 cq30 t_p0 (κ' := 60) rfl rfl rfl
                        have w9809 := rdA_fr (k := 10) (j := 1) gq30 cs11 t_p0 (κ' := 60) rfl rfl rfl
                        have w9810 : rdA s11 p0 10 1 = rdA q2.2 p0 10 1 := by rw [← es11]; exact rdA_j (by decide)
                        have w9812 : rdA q2.2 p0 10 1 = mm_I q2.2 q5 ((1 : Int32)).toNatClampNeg := rdA_eq eq5
                        have w9811 := rdA_fr (k := 10) (j := 1) gq2 c0 t_p0 (κ' := 60) rfl rfl rfl
                        have w9814 := rdA_fr (k := 10) (j := 0) gq28 cq30 t_p0 (κ' := 60) rfl rfl rfl
                        have w9815 := rdA_fr (k := 10) (j := 0) gq30 cs11 t_p0 (κ' := 60) rfl rfl rfl
                        have w9816 : rdA s11 p0 10 0 = -1 := by rw [← es11]; exact rdA_self eq5
                        have w9817 := rdA_fr (k := 9) (j := 0) gq28 cq30 t_p0 (κ' := 59) rfl rfl rfl
                        have w9818 := rdA_fr (k := 9) (j := 0) gq30 cs11 t_p0 (κ' := 59) rfl rfl rfl
                        have w9820 : rdA s11 p0 9 0 = mm_I s11 q17 ((0 : Int32)).toNatClampNeg := rdA_eq eq17
                        have w9819 : rdA s11 p0 9 0 = rdA q2.2 p0 9 0 := by rw [← es11]; exact rdA_k cq2 t_p0 (κ' := 59) rfl tq5 (by decide)
                        have w9821 := rdA_fr (k := 9) (j := 0) gq2 c0 t_p0 (κ' := 59) rfl rfl rfl
                        have w9825 : rdA q2.2 p0 10 0 = mm_I q2.2 q5 ((0 : Int32)).toNatClampNeg := rdA_eq eq5
                        have w9824 := rdA_fr (k := 10) (j := 0) gq2 c0 t_p0 (κ' := 60) rfl rfl rfl
                        have a9826 := zi_and p3 127 (by decide)
                        have a9827 := zi_and p2 8 (by decide)
                        exact sw_some ⟨cq28, fq28, (by (try simp only [zp, zo, zq] at u5318 xq2 h5319 xq12 h5332 xq14 a5352 u5353 h5354 h5355 h8082 h9318 h9573 w9574 w9575 r9576 r9577 r9578 h9579 h9600 h9725 h9772 w9798 w9799 w9800 w9802 w9803 w9805 w9804 w9806 w9808 w9809 w9810 w9812 w9811 w9814 w9815 w9816 w9817 w9818 w9820 w9819 w9821 w9825 w9824 a9826 a9827 ⊢) <;> (try simp only [zz, Int32.reduceToInt, ne_eq] at u5318 xq2 h5319 xq12 h5332 xq14 a5352 u5353 h5354 h5355 h8082 h9318 h9573 w9574 w9575 r9576 r9577 r9578 h9579 h9600 h9725 h9772 w9798 w9799 w9800 w9802 w9803 w9805 w9804 w9806 w9808 w9809 w9810 w9812 w9811 w9814 w9815 w9816 w9817 w9818 w9820 w9819 w9821 w9825 w9824 a9826 a9827 ⊢) <;> (try simp (disch := omega) only [zb] at u5318 xq2 h5319 xq12 h5332 xq14 a5352 u5353 h5354 h5355 h8082 h9318 h9573 w9574 w9575 r9576 r9577 r9578 h9579 h9600 h9725 h9772 w9798 w9799 w9800 w9802 w9803 w9805 w9804 w9806 w9808 w9809 w9810 w9812 w9811 w9814 w9815 w9816 w9817 w9818 w9820 w9819 w9821 w9825 w9824 a9826 a9827 ⊢) <;> first | omega | ((try simp (disch := omega) only [zb] at u5318 xq2 h5319 xq12 h5332 xq14 a5352 u5353 h5354 h5355 h8082 h9318 h9573 w9574 w9575 r9576 r9577 r9578 h9579 h9600 h9725 h9772 w9798 w9799 w9800 w9802 w9803 w9805 w9804 w9806 w9808 w9809 w9810 w9812 w9811 w9814 w9815 w9816 w9817 w9818 w9820 w9819 w9821 w9825 w9824 a9826 a9827 ⊢) <;> omega))⟩
              · have a9828 := zi_and p3 127 (by decide)
                refine sw_ite (fun h9829 => ?_) (fun h9829 => ?_)
                · unfold fX9_pair_227
                  unfold fX9_pair_228
                  have w9830 : mm_I s11 q17 ((0 : Int32).toNatClampNeg) = mm_I q2.2 q17 ((0 : Int32).toNatClampNeg) := by rw [← es11]; exact rd_k tq17 tq5 (by decide)
                  have w9831 := (gq2.2.2 _ _ tq17 ((0 : Int32).toNatClampNeg) rfl).1
                  have r9832 := ci_rg c0 tq17 ((0 : Int32).toNatClampNeg) (lo := (-1)) (hi := 3) rfl
                  have r9833 := ci_rg cq2 tq17 ((0 : Int32).toNatClampNeg) (lo := (-1)) (hi := 3) rfl
                  have r9834 := ci_rg cs11 tq17 ((0 : Int32).toNatClampNeg) (lo := (-1)) (hi := 3) rfl
                  refine sw_ite (fun h9835 => ?_) (fun h9835 => ?_)
                  · have w9836 : mm_I s11 p0 0 = mm_I q2.2 p0 0 := by rw [← es11]; exact rd_k t_p0 tq5 (by decide)
                    have w9839 : rdA s11 p0 9 1 = mm_I s11 q17 ((1 : Int32)).toNatClampNeg := rdA_eq eq17
                    have w9838 : rdA s11 p0 9 1 = rdA q2.2 p0 9 1 := by rw [← es11]; exact rdA_k cq2 t_p0 (κ' := 59) rfl tq5 (by decide)
                    have w9840 := rdA_fr (k := 9) (j := 1) gq2 c0 t_p0 (κ' := 59) rfl rfl rfl
                    have w9842 : rdA s11 p0 10 1 = rdA q2.2 p0 10 1 := by rw [← es11]; exact rdA_j (by decide)
                    have w9844 : rdA q2.2 p0 10 1 = mm_I q2.2 q5 ((1 : Int32)).toNatClampNeg := rdA_eq eq5
                    have w9843 := rdA_fr (k := 10) (j := 1) gq2 c0 t_p0 (κ' := 60) rfl rfl rfl
                    have w9846 : rdA s11 p0 10 0 = -1 := by rw [← es11]; exact rdA_self eq5
                    have w9848 : rdA s11 p0 9 0 = mm_I s11 q17 ((0 : Int32)).toNatClampNeg := rdA_eq eq17
                    have w9847 : rdA s11 p0 9 0 = rdA q2.2 p0 9 0 := by rw [← es11]; exact rdA_k cq2 t_p0 (κ' := 59) rfl tq5 (by decide)
                    have w9849 := rdA_fr (k := 9) (j := 0) gq2 c0 t_p0 (κ' := 59) rfl rfl rfl
                    have w9853 : rdA q2.2 p0 10 0 = mm_I q2.2 q5 ((0 : Int32)).toNatClampNeg := rdA_eq eq5
                    have w9852 := rdA_fr (k := 10) (j := 0) gq2 c0 t_p0 (κ' := 60) rfl rfl rfl
                    have a9854 := zi_and p2 8 (by decide)
                    exact sw_some ⟨cs11, fs11, (by (try simp only [zp, zo, zq] at u5318 xq2 h5319 xq12 h5332 xq14 a5352 u5353 h5354 h5355 h8082 h9318 h9573 a9828 h9829 w9830 w9831 r9832 r9833 r9834 h9835 w9836 w9839 w9838 w9840 w9842 w9844 w9843 w9846 w9848 w9847 w9849 w9853 w9852 a9854 ⊢) <;> (try simp only [zz, Int32.reduceToInt, ne_eq] at u5318 xq2 h5319 xq12 h5332 xq14 a5352 u5353 h5354 h5355 h8082 h9318 h9573 a9828 h9829 w9830 w9831 r9832 r9833 r9834 h9835 w9836 w9839 w9838 w9840 w9842 w9844 w9843 w9846 w9848 w9847 w9849 w9853 w9852 a9854 ⊢) <;> (try simp (disch := omega) only [zb] at u5318 xq2 h5319 xq12 h5332 xq14 a5352 u5353 h5354 h5355 h8082 h9318 h9573 a9828 h9829 w9830 w9831 r9832 r9833 r9834 h9835 w9836 w9839 w9838 w9840 w9842 w9844 w9843 w9846 w9848 w9847 w9849 w9853 w9852 a9854 ⊢) <;> first | omega | ((try simp (disch := omega) only [zb] at u5318 xq2 h5319 xq12 h5332 xq14 a5352 u5353 h5354 h5355 h8082 h9318 h9573 a9828 h9829 w9830 w9831 r9832 r9833 r9834 h9835 w9836 w9839 w9838 w9840 w9842 w9844 w9843 w9846 w9848 w9847 w9849 w9853 w9852 a9854 ⊢) <;> omega))⟩
                  · refine sw_ite (fun h9855 => ?_) (fun h9855 => ?_)
                    · refine sw_ite (fun h9856 => ?_) (fun h9856 => ?_)
                      · have w9857 : mm_I s11 p0 0 = mm_I q2.2 p0 0 := by rw [← es11]; exact rd_k t_p0 tq5 (by decide)
                        have w9860 : rdA s11 p0 9 1 = mm_I s11 q17 ((1 : Int32)).toNatClampNeg := rdA_eq eq17
                        have w9859 : rdA s11 p0 9 1 = rdA q2.2 p0 9 1 := by rw [← es11]; exact rdA_k cq2 t_p0 (κ' := 59) rfl tq5 (by decide)
                        have w9861 := rdA_fr (k := 9) (j := 1) gq2 c0 t_p0 (κ' := 59) rfl rfl rfl
                        have w9863 : rdA s11 p0 10 1 = rdA q2.2 p0 10 1 := by rw [← es11]; exact rdA_j (by decide)
                        have w9865 : rdA q2.2 p0 10 1 = mm_I q2.2 q5 ((1 : Int32)).toNatClampNeg := rdA_eq eq5
                        have w9864 := rdA_fr (k := 10) (j := 1) gq2 c0 t_p0 (κ' := 60) rfl rfl rfl
                        have w9867 : rdA s11 p0 10 0 = -1 := by rw [← es11]; exact rdA_self eq5
                        have w9869 : rdA s11 p0 9 0 = mm_I s11 q17 ((0 : Int32)).toNatClampNeg := rdA_eq eq17
                        have w9868 : rdA s11 p0 9 0 = rdA q2.2 p0 9 0 := by rw [← es11]; exact rdA_k cq2 t_p0 (κ' := 59) rfl tq5 (by decide)
                        have w9870 := rdA_fr (k := 9) (j := 0) gq2 c0 t_p0 (κ' := 59) rfl rfl rfl
                        have w9874 : rdA q2.2 p0 10 0 = mm_I q2.2 q5 ((0 : Int32)).toNatClampNeg := rdA_eq eq5
                        have w9873 := rdA_fr (k := 10) (j := 0) gq2 c0 t_p0 (κ' := 60) rfl rfl rfl
                        have a9875 := zi_and p2 8 (by decide)
                        exact sw_some ⟨cs11, fs11, (by (try simp only [zp, zo, zq] at u5318 xq2 h5319 xq12 h5332 xq14 a5352 u5353 h5354 h5355 h8082 h9318 h9573 a9828 h9829 w9830 w9831 r9832 r9833 r9834 h9835 h9855 h9856 w9857 w9860 w9859 w9861 w9863 w9865 w9864 w9867 w9869 w9868 w9870 w9874 w9873 a9875 ⊢) <;> (try simp only [zz, Int32.reduceToInt, ne_eq] at u5318 xq2 h5319 xq12 h5332 xq14 a5352 u5353 h5354 h5355 h8082 h9318 h9573 a9828 h9829 w9830 w9831 r9832 r9833 r9834 h9835 h9855 h9856 w9857 w9860 w9859 w9861 w9863 w9865 w9864 w9867 w9869 w9868 w9870 w9874 w9873 a9875 ⊢) <;> (try simp (disch := omega) only [zb] at u5318 xq2 h5319 xq12 h5332 xq14 a5352 u5353 h5354 h5355 h8082 h9318 h9573 a9828 h9829 w9830 w9831 r9832 r9833 r9834 h9835 h9855 h9856 w9857 w9860 w9859 w9861 w9863 w9865 w9864 w9867 w9869 w9868 w9870 w9874 w9873 a9875 ⊢) <;> first | omega | ((try simp (disch := omega) only [zb] at u5318 xq2 h5319 xq12 h5332 xq14 a5352 u5353 h5354 h5355 h8082 h9318 h9573 a9828 h9829 w9830 w9831 r9832 r9833 r9834 h9835 h9855 h9856 w9857 w9860 w9859 w9861 w9863 w9865 w9864 w9867 w9869 w9868 w9870 w9874 w9873 a9875 ⊢) <;> omega))⟩
                      · unfold fX9_pair_250
                        refine sw_ite (fun h9876 => ?_) (fun h9876 => ?_)
                        · unfold fX9_pair_264
                          refine sw_ite (fun h9877 => ?_) (fun h9877 => ?_)
                          · have w9878 : mm_I s11 p0 0 = mm_I q2.2 p0 0 := by rw [← es11]; exact rd_k t_p0 tq5 (by decide)
                            have w9881 : rdA s11 p0 9 1 = mm_I s11 q17 ((1 : Int32)).toNatClampNeg := rdA_eq eq17
                            have w9880 : rdA s11 p0 9 1 = rdA q2.2 p0 9 1 := by rw [← es11]; exact rdA_k cq2 t_p0 (κ' := 59) rfl tq5 (by decide)
                            have w9882 := rdA_fr (k := 9) (j := 1) gq2 c0 t_p0 (κ' := 59) rfl rfl rfl
                            have w9884 : rdA s11 p0 10 1 = rdA q2.2 p0 10 1 := by rw [← es11]; exact rdA_j (by decide)
                            have w9886 : rdA q2.2 p0 10 1 = mm_I q2.2 q5 ((1 : Int32)).toNatClampNeg := rdA_eq eq5
                            have w9885 := rdA_fr (k := 10) (j := 1) gq2 c0 t_p0 (κ' := 60) rfl rfl rfl
                            have w9888 : rdA s11 p0 10 0 = -1 := by rw [← es11]; exact rdA_self eq5
                            have w9890 : rdA s11 p0 9 0 = mm_I s11 q17 ((0 : Int32)).toNatClampNeg := rdA_eq eq17
                            have w9889 : rdA s11 p0 9 0 = rdA q2.2 p0 9 0 := by rw [← es11]; exact rdA_k cq2 t_p0 (κ' := 59) rfl tq5 (by decide)
                            have w9891 := rdA_fr (k := 9) (j := 0) gq2 c0 t_p0 (κ' := 59) rfl rfl rfl
                            have w9895 : rdA q2.2 p0 10 0 = mm_I q2.2 q5 ((0 : Int32)).toNatClampNeg := rdA_eq eq5
                            have w9894 := rdA_fr (k := 10) (j := 0) gq2 c0 t_p0 (κ' := 60) rfl rfl rfl
                            have a9896 := zi_and p2 8 (by decide)
                            exact sw_some ⟨cs11, fs11, (by (try simp only [zp, zo, zq] at u5318 xq2 h5319 xq12 h5332 xq14 a5352 u5353 h5354 h5355 h8082 h9318 h9573 a9828 h9829 w9830 w9831 r9832 r9833 r9834 h9835 h9855 h9856 h9876 h9877 w9878 w9881 w9880 w9882 w9884 w9886 w9885 w9888 w9890 w9889 w9891 w9895 w9894 a9896 ⊢) <;> (try simp only [zz, Int32.reduceToInt, ne_eq] at u5318 xq2 h5319 xq12 h5332 xq14 a5352 u5353 h5354 h5355 h8082 h9318 h9573 a9828 h9829 w9830 w9831 r9832 r9833 r9834 h9835 h9855 h9856 h9876 h9877 w9878 w9881 w9880 w9882 w9884 w9886 w9885 w9888 w9890 w9889 w9891 w9895 w9894 a9896 ⊢) <;> (try simp (disch := omega) only [zb] at u5318 xq2 h5319 xq12 h5332 xq14 a5352 u5353 h5354 h5355 h8082 h9318 h9573 a9828 h9829 w9830 w9831 r9832 r9833 r9834 h9835 h9855 h9856 h9876 h9877 w9878 w9881 w9880 w9882 w9884 w9886 w9885 w9888 w9890 w9889 w9891 w9895 w9894 a9896 ⊢) <;> first | omega | ((try simp (disch := omega) only [zb] at u5318 xq2 h5319 xq12 h5332 xq14 a5352 u5353 h5354 h5355 h8082 h9318 h9573 a9828 h9829 w9830 w9831 r9832 r9833 r9834 h9835 h9855 h9856 h9876 h9877 w9878 w9881 w9880 w9882 w9884 w9886 w9885 w9888 w9890 w9889 w9891 w9895 w9894 a9896 ⊢) <;> omega))⟩
                          · refine sw_sh (ci_sh cs11 t_p0 rfl) ?_
                            refine sw_on (sX9_put cs11 t_p0 (by (try simp only [zp, zo, zq] at u5318 xq2 h5319 xq12 h5332 xq14 a5352 u5353 h5354 h5355 h8082 h9318 h9573 a9828 h9829 w9830 w9831 r9832 r9833 r9834 h9835 h9855 h9856 h9876 h9877 ⊢) <;> (try simp only [zz, Int32.reduceToInt, ne_eq] at u5318 xq2 h5319 xq12 h5332 xq14 a5352 u5353 h5354 h5355 h8082 h9318 h9573 a9828 h9829 w9830 w9831 r9832 r9833 r9834 h9835 h9855 h9856 h9876 h9877 ⊢) <;> (try simp (disch := omega) only [zb] at u5318 xq2 h5319 xq12 h5332 xq14 a5352 u5353 h5354 h5355 h8082 h9318 h9573 a9828 h9829 w9830 w9831 r9832 r9833 r9834 h9835 h9855 h9856 h9876 h9877 ⊢) <;> first | omega | ((try simp (disch := omega) only [zb] at u5318 xq2 h5319 xq12 h5332 xq14 a5352 u5353 h5354 h5355 h8082 h9318 h9573 a9828 h9829 w9830 w9831 r9832 r9833 r9834 h9835 h9855 h9856 h9876 h9877 ⊢) <;> omega)) ) ?_
                            intro q28 hqq28
                            obtain ⟨cq28, gq28, xq28⟩ := hqq28
                            have fq28 := fr_trans fs11 gq28 rfl
                            have w9897 := (gq28.2.2 _ _ t_p0 0 rfl).1
                            have w9898 : mm_I s11 p0 0 = mm_I q2.2 p0 0 := by rw [← es11]; exact rd_k t_p0 tq5 (by decide)
                            have w9900 := rdA_fr (k := 9) (j := 1) gq28 cs11 t_p0 (κ' := 59) rfl rfl rfl
                            have w9902 : rdA s11 p0 9 1 = mm_I s11 q17 ((1 : Int32)).toNatClampNeg := rdA_eq eq17
                            have w9901 : rdA s11 p0 9 1 = rdA q2.2 p0 9 1 := by rw [← es11]; exact rdA_k cq2 t_p0 (κ' := 59) rfl tq5 (by decide)
                            have w9903 := rdA_fr (k := 9) (j := 1) gq2 c0 t_p0 (κ' := 59) rfl rfl rfl
                            have w9905 := rdA_fr (k := 10) (j := 1) gq28 cs11 t_p0 (κ' := 60) rfl rfl rfl
                            have w9906 : rdA s11 p0 10 1 = rdA q2.2 p0 10 1 := by rw [← es11]; exact rdA_j (by decide)
                            have w9908 : rdA q2.2 p0 10 1 = mm_I q2.2 q5 ((1 : Int32)).toNatClampNeg := rdA_eq eq5
                            have w9907 := rdA_fr (k := 10) (j := 1) gq2 c0 t_p0 (κ' := 60) rfl rfl rfl
                            have w9910 := rdA_fr (k := 10) (j := 0) gq28 cs11 t_p0 (κ' := 60) rfl rfl rfl
                            have w9911 : rdA s11 p0 10 0 = -1 := by rw [← es11]; exact rdA_self eq5
                            have w9912 := rdA_fr (k := 9) (j := 0) gq28 cs11 t_p0 (κ' := 59) rfl rfl rfl
                            have w9914 : rdA s11 p0 9 0 = mm_I s11 q17 ((0 : Int32)).toNatClampNeg := rdA_eq eq17
                            have w9913 : rdA s11 p0 9 0 = rdA q2.2 p0 9 0 := by rw [← es11]; exact rdA_k cq2 t_p0 (κ' := 59) rfl tq5 (by decide)
                            have w9915 := rdA_fr (k := 9) (j := 0) gq2 c0 t_p0 (κ' := 59) rfl rfl rfl
                            have w9919 : rdA q2.2 p0 10 0 = mm_I q2.2 q5 ((0 : Int32)).toNatClampNeg := rdA_eq eq5
                            have w9918 := rdA_fr (k := 10) (j := 0) gq2 c0 t_p0 (κ' := 60) rfl rfl rfl
                            have a9920 := zi_and p2 8 (by decide)
                            exact sw_some ⟨cq28, fq28, (by (try simp only [zp, zo, zq] at u5318 xq2 h5319 xq12 h5332 xq14 a5352 u5353 h5354 h5355 h8082 h9318 h9573 a9828 h9829 w9830 w9831 r9832 r9833 r9834 h9835 h9855 h9856 h9876 h9877 w9897 w9898 w9900 w9902 w9901 w9903 w9905 w9906 w9908 w9907 w9910 w9911 w9912 w9914 w9913 w9915 w9919 w9918 a9920 ⊢) <;> (try simp only [zz, Int32.reduceToInt, ne_eq] at u5318 xq2 h5319 xq12 h5332 xq14 a5352 u5353 h5354 h5355 h8082 h9318 h9573 a9828 h9829 w9830 w9831 r9832 r9833 r9834 h9835 h9855 h9856 h9876 h9877 w9897 w9898 w9900 w9902 w9901 w9903 w9905 w9906 w9908 w9907 w9910 w9911 w9912 w9914 w9913 w9915 w9919 w9918 a9920 ⊢) <;> (try simp (disch := omega) only [zb] at u5318 xq2 h5319 xq12 h5332 xq14 a5352 u5353 h5354 h5355 h8082 h9318 h9573 a9828 h9829 w9830 w9831 r9832 r9833 r9834 h9835 h9855 h9856 h9876 h9877 w9897 w9898 w9900 w9902 w9901 w9903 w9905 w9906 w9908 w9907 w9910 w9911 w9912 w9914 w9913 w9915 w9919 w9918 a9920 ⊢) <;> first | omega | ((try simp (disch := omega) only [zb] at u5318 xq2 h5319 xq12 h5332 xq14 a5352 u5353 h5354 h5355 h8082 h9318 h9573 a9828 h9829 w9830 w9831 r9832 r9833 r9834 h9835 h9855 h9856 h9876 h9877 w9897 w9898 w9900 w9902 w9901 w9903 w9905 w9906 w9908 w9907 w9910 w9911 w9912 w9914 w9913 w9915 w9919 w9918 a9920 ⊢) <;> omega))⟩
                        · refine sw_sh (ci_sh cs11 t_p0 rfl) ?_
                          refine sw_on (sX9_put cs11 t_p0 (by (try simp only [zp, zo, zq] at u5318 xq2 h5319 xq12 h5332 xq14 a5352 u5353 h5354 h5355 h8082 h9318 h9573 a9828 h9829 w9830 w9831 r9832 r9833 r9834 h9835 h9855 h9856 h9876 ⊢) <;> (try simp only [zz, Int32.reduceToInt, ne_eq] at u5318 xq2 h5319 xq12 h5332 xq14 a5352 u5353 h5354 h5355 h8082 h9318 h9573 a9828 h9829 w9830 w9831 r9832 r9833 r9834 h9835 h9855 h9856 h9876 ⊢) <;> (try simp (disch := omega) only [zb] at u5318 xq2 h5319 xq12 h5332 xq14 a5352 u5353 h5354 h5355 h8082 h9318 h9573 a9828 h9829 w9830 w9831 r9832 r9833 r9834 h9835 h9855 h9856 h9876 ⊢) <;> first | omega | ((try simp (disch := omega) only [zb] at u5318 xq2 h5319 xq12 h5332 xq14 a5352 u5353 h5354 h5355 h8082 h9318 h9573 a9828 h9829 w9830 w9831 r9832 r9833 r9834 h9835 h9855 h9856 h9876 ⊢) <;> omega)) ) ?_
                          intro q30 hqq30
                          obtain ⟨cq30, gq30, xq30⟩ := hqq30
                          have fq30 := fr_trans fs11 gq30 rfl
                          unfold fX9_pair_264
                          refine sw_ite (fun h9921 => ?_) (fun h9921 => ?_)
                          · have w9922 := (gq30.2.2 _ _ t_p0 0 rfl).1
                            have w9923 : mm_I s11 p0 0 = mm_I q2.2 p0 0 := by rw [← es11]; exact rd_k t_p0 tq5 (by decide)
                            have w9925 := rdA_fr (k := 9) (j := 1) gq30 cs11 t_p0 (κ' := 59) rfl rfl rfl
                            have w9927 : rdA s11 p0 9 1 = mm_I s11 q17 ((1 : Int32)).toNatClampNeg := rdA_eq eq17
                            have w9926 : rdA s11 p0 9 1 = rdA q2.2 p0 9 1 := by rw [← es11]; exact rdA_k cq2 t_p0 (κ' := 59) rfl tq5 (by decide)
                            have w9928 := rdA_fr (k := 9) (j := 1) gq2 c0 t_p0 (κ' := 59) rfl rfl rfl
                            have w9930 := rdA_fr (k := 10) (j := 1) gq30 cs11 t_p0 (κ' := 60) rfl rfl rfl
                            have w9931 : rdA s11 p0 10 1 = rdA q2.2 p0 10 1 := by rw [← es11]; exact rdA_j (by decide)
                            have w9933 : rdA q2.2 p0 10 1 = mm_I q2.2 q5 ((1 : Int32)).toNatClampNeg := rdA_eq eq5
                            have w9932 := rdA_fr (k := 10) (j := 1) gq2 c0 t_p0 (κ' := 60) rfl rfl rfl
                            have w9935 := rdA_fr (k := 10) (j := 0) gq30 cs11 t_p0 (κ' := 60) rfl rfl rfl
                            have w9936 : rdA s11 p0 10 0 = -1 := by rw [← es11]; exact rdA_self eq5
                            have w9937 := rdA_fr (k := 9) (j := 0) gq30 cs11 t_p0 (κ' := 59) rfl rfl rfl
                            have w9939 : rdA s11 p0 9 0 = mm_I s11 q17 ((0 : Int32)).toNatClampNeg := rdA_eq eq17
                            have w9938 : rdA s11 p0 9 0 = rdA q2.2 p0 9 0 := by rw [← es11]; exact rdA_k cq2 t_p0 (κ' := 59) rfl tq5 (by decide)
                            have w9940 := rdA_fr (k := 9) (j := 0) gq2 c0 t_p0 (κ' := 59) rfl rfl rfl
                            have w9944 : rdA q2.2 p0 10 0 = mm_I q2.2 q5 ((0 : Int32)).toNatClampNeg := rdA_eq eq5
                            have w9943 := rdA_fr (k := 10) (j := 0) gq2 c0 t_p0 (κ' := 60) rfl rfl rfl
                            have a9945 := zi_and p2 8 (by decide)
                            exact sw_some ⟨cq30, fq30, (by (try simp only [zp, zo, zq] at u5318 xq2 h5319 xq12 h5332 xq14 a5352 u5353 h5354 h5355 h8082 h9318 h9573 a9828 h9829 w9830 w9831 r9832 r9833 r9834 h9835 h9855 h9856 h9876 h9921 w9922 w9923 w9925 w9927 w9926 w9928 w9930 w9931 w9933 w9932 w9935 w9936 w9937 w9939 w9938 w9940 w9944 w9943 a9945 ⊢) <;> (try simp only [zz, Int32.reduceToInt, ne_eq] at u5318 xq2 h5319 xq12 h5332 xq14 a5352 u5353 h5354 h5355 h8082 h9318 h9573 a9828 h9829 w9830 w9831 r9832 r9833 r9834 h9835 h9855 h9856 h9876 h9921 w9922 w9923 w9925 w9927 w9926 w9928 w9930 w9931 w9933 w9932 w9935 w9936 w9937 w9939 w9938 w9940 w9944 w9943 a9945 ⊢) <;> (try simp (disch := omega) only [zb] at u5318 xq2 h5319 xq12 h5332 xq14 a5352 u5353 h5354 h5355 h8082 h9318 h9573 a9828 h9829 w9830 w9831 r9832 r9833 r9834 h9835 h9855 h9856 h9876 h9921 w9922 w9923 w9925 w9927 w9926 w9928 w9930 w9931 w9933 w9932 w9935 w9936 w9937 w9939 w9938 w9940 w9944 w9943 a9945 ⊢) <;> first | omega | ((try simp (disch := omega) only [zb] at u5318 xq2 h5319 xq12 h5332 xq14 a5352 u5353 h5354 h5355 h8082 h9318 h9573 a9828 h9829 w9830 w9831 r9832 r9833 r9834 h9835 h9855 h9856 h9876 h9921 w9922 w9923 w9925 w9927 w9926 w9928 w9930 w9931 w9933 w9932 w9935 w9936 w9937 w9939 w9938 w9940 w9944 w9943 a9945 ⊢) <;> omega))⟩
                          · refine sw_sh (ci_sh cq30 t_p0 rfl) ?_
                            refine sw_on (sX9_put cq30 t_p0 (by (try simp only [zp, zo, zq] at u5318 xq2 h5319 xq12 h5332 xq14 a5352 u5353 h5354 h5355 h8082 h9318 h9573 a9828 h9829 w9830 w9831 r9832 r9833 r9834 h9835 h9855 h9856 h9876 h9921 ⊢) <;> (try simp only [zz, Int32.reduceToInt, ne_eq] at u5318 xq2 h5319 xq12 h5332 xq14 a5352 u5353 h5354 h5355 h8082 h9318 h9573 a9828 h9829 w9830 w9831 r9832 r9833 r9834 h9835 h9855 h9856 h9876 h9921 ⊢) <;> (try simp (disch := omega) only [zb] at u5318 xq2 h5319 xq12 h5332 xq14 a5352 u5353 h5354 h5355 h8082 h9318 h9573 a9828 h9829 w9830 w9831 r9832 r9833 r9834 h9835 h9855 h9856 h9876 h9921 ⊢) <;> first | omega | ((try simp (disch := omega) only [zb] at u5318 xq2 h5319 xq12 h5332 xq14 a5352 u5353 h5354 h5355 h8082 h9318 h9573 a9828 h9829 w9830 w9831 r9832 r9833 r9834 h9835 h9855 h9856 h9876 h9921 ⊢) <;> omega)) ) ?_
                            intro q28 hqq28
                            obtain ⟨cq28, gq28, xq28⟩ := hqq28
                            have fq28 := fr_trans fq30 gq28 rfl
                            have w9946 := (gq28.2.2 _ _ t_p0 0 rfl).1
                            have w9947 := (gq30.2.2 _ _ t_p0 0 rfl).1
                            have w9948 : mm_I s11 p0 0 = mm_I q2.2 p0 0 := by rw [← es11]; exact rd_k t_p0 tq5 (by decide)
                            have w9950 := rdA_fr (k := 9) (j := 1) gq28 cq30 t_p0 (κ' := 59) rfl rfl rfl
                            have w9951 := rdA_fr (k := 9) (j := 1) gq30 cs11 t_p0 (κ' := 59) rfl rfl rfl
                            have w9953 : rdA s11 p0 9 1 = mm_I s11 q17 ((1 : Int32)).toNatClampNeg := rdA_eq eq17
                            have w9952 : rdA s11 p0 9 1 = rdA q2.2 p0 9 1 := by rw [← es11]; exact rdA_k cq2 t_p0 (κ' := 59) rfl tq5 (by decide)
                            have w9954 := rdA_fr (k := 9) (j := 1) gq2 c0 t_p0 (κ' := 59) rfl rfl rfl
                            have w9956 := rdA_fr (k := 10) (j := 1) gq28 cq30 t_p0 (κ' := 60) rfl rfl rfl
                            have w9957 := rdA_fr (k := 10) (j := 1) gq30 cs11 t_p0 (κ' := 60) rfl rfl rfl
                            have w9958 : rdA s11 p0 10 1 = rdA q2.2 p0 10 1 := by rw [← es11]; exact rdA_j (by decide)
                            have w9960 : rdA q2.2 p0 10 1 = mm_I q2.2 q5 ((1 : Int32)).toNatClampNeg := rdA_eq eq5
                            have w9959 := rdA_fr (k := 10) (j := 1) gq2 c0 t_p0 (κ' := 60) rfl rfl rfl
                            have w9962 := rdA_fr (k := 10) (j := 0) gq28 cq30 t_p0 (κ' := 60) rfl rfl rfl
                            have w9963 := rdA_fr (k := 10) (j := 0) gq30 cs11 t_p0 (κ' := 60) rfl rfl rfl
                            have w9964 : rdA s11 p0 10 0 = -1 := by rw [← es11]; exact rdA_self eq5
                            have w9965 := rdA_fr (k := 9) (j := 0) gq28 cq30 t_p0 (κ' := 59) rfl rfl rfl
                            have w9966 := rdA_fr (k := 9) (j := 0) gq30 cs11 t_p0 (κ' := 59) rfl rfl rfl
                            have w9968 : rdA s11 p0 9 0 = mm_I s11 q17 ((0 : Int32)).toNatClampNeg := rdA_eq eq17
                            have w9967 : rdA s11 p0 9 0 = rdA q2.2 p0 9 0 := by rw [← es11]; exact rdA_k cq2 t_p0 (κ' := 59) rfl tq5 (by decide)
                            have w9969 := rdA_fr (k := 9) (j := 0) gq2 c0 t_p0 (κ' := 59) rfl rfl rfl
                            have w9973 : rdA q2.2 p0 10 0 = mm_I q2.2 q5 ((0 : Int32)).toNatClampNeg := rdA_eq eq5
                            have w9972 := rdA_fr (k := 10) (j := 0) gq2 c0 t_p0 (κ' := 60) rfl rfl rfl
                            have a9974 := zi_and p2 8 (by decide)
                            exact sw_some ⟨cq28, fq28, (by (try simp only [zp, zo, zq] at u5318 xq2 h5319 xq12 h5332 xq14 a5352 u5353 h5354 h5355 h8082 h9318 h9573 a9828 h9829 w9830 w9831 r9832 r9833 r9834 h9835 h9855 h9856 h9876 h9921 w9946 w9947 w9948 w9950 w9951 w9953 w9952 w9954 w9956 w9957 w9958 w9960 w9959 w9962 w9963 w9964 w9965 w9966 w9968 w9967 w9969 w9973 w9972 a9974 ⊢) <;> (try simp only [zz, Int32.reduceToInt, ne_eq] at u5318 xq2 h5319 xq12 h5332 xq14 a5352 u5353 h5354 h5355 h8082 h9318 h9573 a9828 h9829 w9830 w9831 r9832 r9833 r9834 h9835 h9855 h9856 h9876 h9921 w9946 w9947 w9948 w9950 w9951 w9953 w9952 w9954 w9956 w9957 w9958 w9960 w9959 w9962 w9963 w9964 w9965 w9966 w9968 w9967 w9969 w9973 w9972 a9974 ⊢) <;> (try simp (disch := omega) only [zb] at u5318 xq2 h5319 xq12 h5332 xq14 a5352 u5353 h5354 h5355 h8082 h9318 h9573 a9828 h9829 w9830 w9831 r9832 r9833 r9834 h9835 h9855 h9856 h9876 h9921 w9946 w9947 w9948 w9950 w9951 w9953 w9952 w9954 w9956 w9957 w9958 w9960 w9959 w9962 w9963 w9964 w9965 w9966 w9968 w9967 w9969 w9973 w9972 a9974 ⊢) <;> first | omega | ((try simp (disch := omega) only [zb] at u5318 xq2 h5319 xq12 h5332 xq14 a5352 u5353 h5354 h5355 h8082 h9318 h9573 a9828 h9829 w9830 w9831 r9832 r9833 r9834 h9835 h9855 h9856 h9876 h9921 w9946 w9947 w9948 w9950 w9951 w9953 w9952 w9954 w9956 w9957 w9958 w9960 w9959 w9962 w9963 w9964 w9965 w9966 w9968 w9967 w9969 w9973 w9972 a9974 ⊢) <;> omega))⟩
                    · unfold fX9_pair_250
                      refine sw_ite (fun h9975 => ?_) (fun h9975 => ?_)
                      · unfold fX9_pair_264
                        refine sw_ite (fun h9976 => ?_) (fun h9976 => ?_)
                        · have w9977 : mm_I s11 p0 0 = mm_I q2.2 p0 0 := by rw [← es11]; exact rd_k t_p0 tq5 (by decide)
                          have w9980 : rdA s11 p0 9 1 = mm_I s11 q17 ((1 : Int32)).toNatClampNeg := rdA_eq eq17
                          have w9979 : rdA s11 p0 9 1 = rdA q2.2 p0 9 1 := by rw [← es11]; exact rdA_k cq2 t_p0 (κ' := 59) rfl tq5 (by decide)
                          have w9981 := rdA_fr (k := 9) (j := 1) gq2 c0 t_p0 (κ' := 59) rfl rfl rfl
                          have w9983 : rdA s11 p0 10 1 = rdA q2.2 p0 10 1 := by rw [← es11]; exact rdA_j (by decide)
                          have w9985 : rdA q2.2 p0 10 1 = mm_I q2.2 q5 ((1 : Int32)).toNatClampNeg := rdA_eq eq5
                          have w9984 := rdA_fr (k := 10) (j := 1) gq2 c0 t_p0 (κ' := 60) rfl rfl rfl
                          have w9987 : rdA s11 p0 10 0 = -1 := by rw [← es11]; exact rdA_self eq5
                          have w9989 : rdA s11 p0 9 0 = mm_I s11 q17 ((0 : Int32)).toNatClampNeg := rdA_eq eq17
                          have w9988 : rdA s11 p0 9 0 = rdA q2.2 p0 9 0 := by rw [← es11]; exact rdA_k cq2 t_p0 (κ' := 59) rfl tq5 (by decide)
                          have w9990 := rdA_fr (k := 9) (j := 0) gq2 c0 t_p0 (κ' := 59) rfl rfl rfl
                          have w9994 : rdA q2.2 p0 10 0 = mm_I q2.2 q5 ((0 : Int32)).toNatClampNeg := rdA_eq eq5
                          have w9993 := rdA_fr (k := 10) (j := 0) gq2 c0 t_p0 (κ' := 60) rfl rfl rfl
                          have a9995 := zi_and p2 8 (by decide)
                          exact sw_some ⟨cs11, fs11, (by (try simp only [zp, zo, zq] at u5318 xq2 h5319 xq12 h5332 xq14 a5352 u5353 h5354 h5355 h8082 h9318 h9573 a9828 h9829 w9830 w9831 r9832 r9833 r9834 h9835 h9855 h9975 h9976 w9977 w9980 w9979 w9981 w9983 w9985 w9984 w9987 w9989 w9988 w9990 w9994 w9993 a9995 ⊢) <;> (try simp only [zz, Int32.reduceToInt, ne_eq] at u5318 xq2 h5319 xq12 h5332 xq14 a5352 u5353 h5354 h5355 h8082 h9318 h9573 a9828 h9829 w9830 w9831 r9832 r9833 r9834 h9835 h9855 h9975 h9976 w9977 w9980 w9979 w9981 w9983 w9985 w9984 w9987 w9989 w9988 w9990 w9994 w9993 a9995 ⊢) <;> (try simp (disch := omega) only [zb] at u5318 xq2 h5319 xq12 h5332 xq14 a5352 u5353 h5354 h5355 h8082 h9318 h9573 a9828 h9829 w9830 w9831 r9832 r9833 r9834 h9835 h9855 h9975 h9976 w9977 w9980 w9979 w9981 w9983 w9985 w9984 w9987 w9989 w9988 w9990 w9994 w9993 a9995 ⊢) <;> first | omega | ((try simp (disch := omega) only [zb] at u5318 xq2 h5319 xq12 h5332 xq14 a5352 u5353 h5354 h5355 h8082 h9318 h9573 a9828 h9829 w9830 w9831 r9832 r9833 r9834 h9835 h9855 h9975 h9976 w9977 w9980 w9979 w9981 w9983 w9985 w9984 w9987 w9989 w9988 w9990 w9994 w9993 a9995 ⊢) <;> omega))⟩
                        · refine sw_sh (ci_sh cs11 t_p0 rfl) ?_
                          refine sw_on (sX9_put cs11 t_p0 (by (try simp only [zp, zo, zq] at u5318 xq2 h5319 xq12 h5332 xq14 a5352 u5353 h5354 h5355 h8082 h9318 h9573 a9828 h9829 w9830 w9831 r9832 r9833 r9834 h9835 h9855 h9975 h9976 ⊢) <;> (try simp only [zz, Int32.reduceToInt, ne_eq] at u5318 xq2 h5319 xq12 h5332 xq14 a5352 u5353 h5354 h5355 h8082 h9318 h9573 a9828 h9829 w9830 w9831 r9832 r9833 r9834 h9835 h9855 h9975 h9976 ⊢) <;> (try simp (disch := omega) only [zb] at u5318 xq2 h5319 xq12 h5332 xq14 a5352 u5353 h5354 h5355 h8082 h9318 h9573 a9828 h9829 w9830 w9831 r9832 r9833 r9834 h9835 h9855 h9975 h9976 ⊢) <;> first | omega | ((try simp (disch := omega) only [zb] at u5318 xq2 h5319 xq12 h5332 xq14 a5352 u5353 h5354 h5355 h8082 h9318 h9573 a9828 h9829 w9830 w9831 r9832 r9833 r9834 h9835 h9855 h9975 h9976 ⊢) <;> omega)) ) ?_
                          intro q28 hqq28
                          obtain ⟨cq28, gq28, xq28⟩ := hqq28
                          have fq28 := fr_trans fs11 gq28 rfl
                          have w9996 := (gq28.2.2 _ _ t_p0 0 rfl).1
                          have w9997 : mm_I s11 p0 0 = mm_I q2.2 p0 0 := by rw [← es11]; exact rd_k t_p0 tq5 (by decide)
                          have w9999 := rdA_fr (k := 9) (j := 1) gq28 cs11 t_p0 (κ' := 59) rfl rfl rfl
                          have w10001 : rdA s11 p0 9 1 = mm_I s11 q17 ((1 : Int32)).toNatClampNeg := rdA_eq eq17
                          have w10000 : rdA s11 p0 9 1 = rdA q2.2 p0 9 1 := by rw [← es11]; exact rdA_k cq2 t_p0 (κ' := 59) rfl tq5 (by decide)
                          have w10002 := rdA_fr (k := 9) (j := 1) gq2 c0 t_p0 (κ' := 59) rfl rfl rfl
                          have w10004 := rdA_fr (k := 10) (j := 1) gq28 cs11 t_p0 (κ' := 60) rfl rfl rfl
                          have w10005 : rdA s11 p0 10 1 = rdA q2.2 p0 10 1 := by rw [← es11]; exact rdA_j (by decide)
                          have w10007 : rdA q2.2 p0 10 1 = mm_I q2.2 q5 ((1 : Int32)).toNatClampNeg := rdA_eq eq5
                          have w10006 := rdA_fr (k := 10) (j := 1) gq2 c0 t_p0 (κ' := 60) rfl rfl rfl
                          have w10009 := rdA_fr (k := 10) (j := 0) gq28 cs11 t_p0 (κ' := 60) rfl rfl rfl
                          have w10010 : rdA s11 p0 10 0 = -1 := by rw [← es11]; exact rdA_self eq5
                          have w10011 := rdA_fr (k := 9) (j := 0) gq28 cs11 t_p0 (κ' := 59) rfl rfl rfl
                          have w10013 : rdA s11 p0 9 0 = mm_I s11 q17 ((0 : Int32)).toNatClampNeg := rdA_eq eq17
                          have w10012 : rdA s11 p0 9 0 = rdA q2.2 p0 9 0 := by rw [← es11]; exact rdA_k cq2 t_p0 (κ' := 59) rfl tq5 (by decide)
                          have w10014 := rdA_fr (k := 9) (j := 0) gq2 c0 t_p0 (κ' := 59) rfl rfl rfl
                          have w10018 : rdA q2.2 p0 10 0 = mm_I q2.2 q5 ((0 : Int32)).toNatClampNeg := rdA_eq eq5
                          have w10017 := rdA_fr (k := 10) (j := 0) gq2 c0 t_p0 (κ' := 60) rfl rfl rfl
                          have a10019 := zi_and p2 8 (by decide)
                          exact sw_some ⟨cq28, fq28, (by (try simp only [zp, zo, zq] at u5318 xq2 h5319 xq12 h5332 xq14 a5352 u5353 h5354 h5355 h8082 h9318 h9573 a9828 h9829 w9830 w9831 r9832 r9833 r9834 h9835 h9855 h9975 h9976 w9996 w9997 w9999 w10001 w10000 w10002 w10004 w10005 w10007 w10006 w10009 w10010 w10011 w10013 w10012 w10014 w10018 w10017 a10019 ⊢) <;> (try simp only [zz, Int32.reduceToInt, ne_eq] at u5318 xq2 h5319 xq12 h5332 xq14 a5352 u5353 h5354 h5355 h8082 h9318 h9573 a9828 h9829 w9830 w9831 r9832 r9833 r9834 h9835 h9855 h9975 h9976 w9996 w9997 w9999 w10001 w10000 w10002 w10004 w10005 w10007 w10006 w10009 w10010 w10011 w10013 w10012 w10014 w10018 w10017 a10019 ⊢) <;> (try simp (disch := omega) only [zb] at u5318 xq2 h5319 xq12 h5332 xq14 a5352 u5353 h5354 h5355 h8082 h9318 h9573 a9828 h9829 w9830 w9831 r9832 r9833 r9834 h9835 h9855 h9975 h9976 w9996 w9997 w9999 w10001 w10000 w10002 w10004 w10005 w10007 w10006 w10009 w10010 w10011 w10013 w10012 w10014 w10018 w10017 a10019 ⊢) <;> first | omega | ((try simp (disch := omega) only [zb] at u5318 xq2 h5319 xq12 h5332 xq14 a5352 u5353 h5354 h5355 h8082 h9318 h9573 a9828 h9829 w9830 w9831 r9832 r9833 r9834 h9835 h9855 h9975 h9976 w9996 w9997 w9999 w10001 w10000 w10002 w10004 w10005 w10007 w10006 w10009 w10010 w10011 w10013 w10012 w10014 w10018 w10017 a10019 ⊢) <;> omega))⟩
                      · refine sw_sh (ci_sh cs11 t_p0 rfl) ?_
                        refine sw_on (sX9_put cs11 t_p0 (by (try simp only [zp, zo, zq] at u5318 xq2 h5319 xq12 h5332 xq14 a5352 u5353 h5354 h5355 h8082 h9318 h9573 a9828 h9829 w9830 w9831 r9832 r9833 r9834 h9835 h9855 h9975 ⊢) <;> (try simp only [zz, Int32.reduceToInt, ne_eq] at u5318 xq2 h5319 xq12 h5332 xq14 a5352 u5353 h5354 h5355 h8082 h9318 h9573 a9828 h9829 w9830 w9831 r9832 r9833 r9834 h9835 h9855 h9975 ⊢) <;> (try simp (disch := omega) only [zb] at u5318 xq2 h5319 xq12 h5332 xq14 a5352 u5353 h5354 h5355 h8082 h9318 h9573 a9828 h9829 w9830 w9831 r9832 r9833 r9834 h9835 h9855 h9975 ⊢) <;> first | omega | ((try simp (disch := omega) only [zb] at u5318 xq2 h5319 xq12 h5332 xq14 a5352 u5353 h5354 h5355 h8082 h9318 h9573 a9828 h9829 w9830 w9831 r9832 r9833 r9834 h9835 h9855 h9975 ⊢) <;> omega)) ) ?_
                        intro q30 hqq30
                        obtain ⟨cq30, gq30, xq30⟩ := hqq30
                        have fq30 := fr_trans fs11 gq30 rfl
                        unfold fX9_pair_264
                        refine sw_ite (fun h10020 => ?_) (fun h10020 => ?_)
                        · have w10021 := (gq30.2.2 _ _ t_p0 0 rfl).1
                          have w10022 : mm_I s11 p0 0 = mm_I q2.2 p0 0 := by rw [← es11]; exact rd_k t_p0 tq5 (by decide)
                          have w10024 := rdA_fr (k := 9) (j := 1) gq30 cs11 t_p0 (κ' := 59) rfl rfl rfl
                          have w10026 : rdA s11 p0 9 1 = mm_I s11 q17 ((1 : Int32)).toNatClampNeg := rdA_eq eq17
                          have w10025 : rdA s11 p0 9 1 = rdA q2.2 p0 9 1 := by rw [← es11]; exact rdA_k cq2 t_p0 (κ' := 59) rfl tq5 (by decide)
                          have w10027 := rdA_fr (k := 9) (j := 1) gq2 c0 t_p0 (κ' := 59) rfl rfl rfl
                          have w10029 := rdA_fr (k := 10) (j := 1) gq30 cs11 t_p0 (κ' := 60) rfl rfl rfl
                          have w10030 : rdA s11 p0 10 1 = rdA q2.2 p0 10 1 := by rw [← es11]; exact rdA_j (by decide)
                          have w10032 : rdA q2.2 p0 10 1 = mm_I q2.2 q5 ((1 : Int32)).toNatClampNeg := rdA_eq eq5
                          have w10031 := rdA_fr (k := 10) (j := 1) gq2 c0 t_p0 (κ' := 60) rfl rfl rfl
                          have w10034 := rdA_fr (k := 10) (j := 0) gq30 cs11 t_p0 (κ' := 60) rfl rfl rfl
                          have w10035 : rdA s11 p0 10 0 = -1 := by rw [← es11]; exact rdA_self eq5
                          have w10036 := rdA_fr (k := 9) (j := 0) gq30 cs11 t_p0 (κ' := 59) rfl rfl rfl
                          have w10038 : rdA s11 p0 9 0 = mm_I s11 q17 ((0 : Int32)).toNatClampNeg := rdA_eq eq17
                          have w10037 : rdA s11 p0 9 0 = rdA q2.2 p0 9 0 := by rw [← es11]; exact rdA_k cq2 t_p0 (κ' := 59) rfl tq5 (by decide)
                          have w10039 := rdA_fr (k := 9) (j := 0) gq2 c0 t_p0 (κ' := 59) rfl rfl rfl
                          have w10043 : rdA q2.2 p0 10 0 = mm_I q2.2 q5 ((0 : Int32)).toNatClampNeg := rdA_eq eq5
                          have w10042 := rdA_fr (k := 10) (j := 0) gq2 c0 t_p0 (κ' := 60) rfl rfl rfl
                          have a10044 := zi_and p2 8 (by decide)
                          exact sw_some ⟨cq30, fq30, (by (try simp only [zp, zo, zq] at u5318 xq2 h5319 xq12 h5332 xq14 a5352 u5353 h5354 h5355 h8082 h9318 h9573 a9828 h9829 w9830 w9831 r9832 r9833 r9834 h9835 h9855 h9975 h10020 w10021 w10022 w10024 w10026 w10025 w10027 w10029 w10030 w10032 w10031 w10034 w10035 w10036 w10038 w10037 w10039 w10043 w10042 a10044 ⊢) <;> (try simp only [zz, Int32.reduceToInt, ne_eq] at u5318 xq2 h5319 xq12 h5332 xq14 a5352 u5353 h5354 h5355 h8082 h9318 h9573 a9828 h9829 w9830 w9831 r9832 r9833 r9834 h9835 h9855 h9975 h10020 w10021 w10022 w10024 w10026 w10025 w10027 w10029 w10030 w10032 w10031 w10034 w10035 w10036 w10038 w10037 w10039 w10043 w10042 a10044 ⊢) <;> (try simp (disch := omega) only [zb] at u5318 xq2 h5319 xq12 h5332 xq14 a5352 u5353 h5354 h5355 h8082 h9318 h9573 a9828 h9829 w9830 w9831 r9832 r9833 r9834 h9835 h9855 h9975 h10020 w10021 w10022 w10024 w10026 w10025 w10027 w10029 w10030 w10032 w10031 w10034 w10035 w10036 w10038 w10037 w10039 w10043 w10042 a10044 ⊢) <;> first | omega | ((try simp (disch := omega) only [zb] at u5318 xq2 h5319 xq12 h5332 xq14 a5352 u5353 h5354 h5355 h8082 h9318 h9573 a9828 h9829 w9830 w9831 r9832 r9833 r9834 h9835 h9855 h9975 h10020 w10021 w10022 w10024 w10026 w10025 w10027 w10029 w10030 w10032 w10031 w10034 w10035 w10036 w10038 w10037 w10039 w10043 w10042 a10044 ⊢) <;> omega))⟩
                        · refine sw_sh (ci_sh cq30 t_p0 rfl) ?_
                          refine sw_on (sX9_put cq30 t_p0 (by (try simp only [zp, zo, zq] at u5318 xq2 h5319 xq12 h5332 xq14 a5352 u5353 h5354 h5355 h8082 h9318 h9573 a9828 h9829 w9830 w9831 r9832 r9833 r9834 h9835 h9855 h9975 h10020 ⊢) <;> (try simp only [zz, Int32.reduceToInt, ne_eq] at u5318 xq2 h5319 xq12 h5332 xq14 a5352 u5353 h5354 h5355 h8082 h9318 h9573 a9828 h9829 w9830 w9831 r9832 r9833 r9834 h9835 h9855 h9975 h10020 ⊢) <;> (try simp (disch := omega) only [zb] at u5318 xq2 h5319 xq12 h5332 xq14 a5352 u5353 h5354 h5355 h8082 h9318 h9573 a9828 h9829 w9830 w9831 r9832 r9833 r9834 h9835 h9855 h9975 h10020 ⊢) <;> first | omega | ((try simp (disch := omega) only [zb] at u5318 xq2 h5319 xq12 h5332 xq14 a5352 u5353 h5354 h5355 h8082 h9318 h9573 a9828 h9829 w9830 w9831 r9832 r9833 r9834 h9835 h9855 h9975 h10020 ⊢) <;> omega)) ) ?_
                          intro q28 hqq28
                          obtain ⟨cq28, gq28, xq28⟩ := hqq28
                          have fq28 := fr_trans fq30 gq28 rfl
                          have w10045 := (gq28.2.2 _ _ t_p0 0 rfl).1
                          have w10046 := (gq30.2.2 _ _ t_p0 0 rfl).1
                          have w10047 : mm_I s11 p0 0 = mm_I q2.2 p0 0 := by rw [← es11]; exact rd_k t_p0 tq5 (by decide)
                          have w10049 := rdA_fr (k := 9) (j := 1) gq28 cq30 t_p0 (κ' := 59) rfl rfl rfl
                          have w10050 := rdA_fr (k := 9) (j := 1) gq30 cs11 t_p0 (κ' := 59) rfl rfl rfl
                          have w10052 : rdA s11 p0 9 1 = mm_I s11 q17 ((1 : Int32)).toNatClampNeg := rdA_eq eq17
                          have w10051 : rdA s11 p0 9 1 = rdA q2.2 p0 9 1 := by rw [← es11]; exact rdA_k cq2 t_p0 (κ' := 59) rfl tq5 (by decide)
                          have w10053 := rdA_fr (k := 9) (j := 1) gq2 c0 t_p0 (κ' := 59) rfl rfl rfl
                          have w10055 := rdA_fr (k := 10) (j := 1) gq28 cq30 t_p0 (κ' := 60) rfl rfl rfl
                          have w10056 := rdA_fr (k := 10) (j := 1) gq30 cs11 t_p0 (κ' := 60) rfl rfl rfl
                          have w10057 : rdA s11 p0 10 1 = rdA q2.2 p0 10 1 := by rw [← es11]; exact rdA_j (by decide)
                          have w10059 : rdA q2.2 p0 10 1 = mm_I q2.2 q5 ((1 : Int32)).toNatClampNeg := rdA_eq eq5
                          have w10058 := rdA_fr (k := 10) (j := 1) gq2 c0 t_p0 (κ' := 60) rfl rfl rfl
                          have w10061 := rdA_fr (k := 10) (j := 0) gq28 cq30 t_p0 (κ' := 60) rfl rfl rfl
                          have w10062 := rdA_fr (k := 10) (j := 0) gq30 cs11 t_p0 (κ' := 60) rfl rfl rfl
                          have w10063 : rdA s11 p0 10 0 = -1 := by rw [← es11]; exact rdA_self eq5
                          have w10064 := rdA_fr (k := 9) (j := 0) gq28 cq30 t_p0 (κ' := 59) rfl rfl rfl
                          have w10065 := rdA_fr (k := 9) (j := 0) gq30 cs11 t_p0 (κ' := 59) rfl rfl rfl
                          have w10067 : rdA s11 p0 9 0 = mm_I s11 q17 ((0 : Int32)).toNatClampNeg := rdA_eq eq17
                          have w10066 : rdA s11 p0 9 0 = rdA q2.2 p0 9 0 := by rw [← es11]; exact rdA_k cq2 t_p0 (κ' := 59) rfl tq5 (by decide)
                          have w10068 := rdA_fr (k := 9) (j := 0) gq2 c0 t_p0 (κ' := 59) rfl rfl rfl
                          have w10072 : rdA q2.2 p0 10 0 = mm_I q2.2 q5 ((0 : Int32)).toNatClampNeg := rdA_eq eq5
                          have w10071 := rdA_fr (k := 10) (j := 0) gq2 c0 t_p0 (κ' := 60) rfl rfl rfl
                          have a10073 := zi_and p2 8 (by decide)
                          exact sw_some ⟨cq28, fq28, (by (try simp only [zp, zo, zq] at u5318 xq2 h5319 xq12 h5332 xq14 a5352 u5353 h5354 h5355 h8082 h9318 h9573 a9828 h9829 w9830 w9831 r9832 r9833 r9834 h9835 h9855 h9975 h10020 w10045 w10046 w10047 w10049 w10050 w10052 w10051 w10053 w10055 w10056 w10057 w10059 w10058 w10061 w10062 w10063 w10064 w10065 w10067 w10066 w10068 w10072 w10071 a10073 ⊢) <;> (try simp only [zz, Int32.reduceToInt, ne_eq] at u5318 xq2 h5319 xq12 h5332 xq14 a5352 u5353 h5354 h5355 h8082 h9318 h9573 a9828 h9829 w9830 w9831 r9832 r9833 r9834 h9835 h9855 h9975 h10020 w10045 w10046 w10047 w10049 w10050 w10052 w10051 w10053 w10055 w10056 w10057 w10059 w10058 w10061 w10062 w10063 w10064 w10065 w10067 w10066 w10068 w10072 w10071 a10073 ⊢) <;> (try simp (disch := omega) only [zb] at u5318 xq2 h5319 xq12 h5332 xq14 a5352 u5353 h5354 h5355 h8082 h9318 h9573 a9828 h9829 w9830 w9831 r9832 r9833 r9834 h9835 h9855 h9975 h10020 w10045 w10046 w10047 w10049 w10050 w10052 w10051 w10053 w10055 w10056 w10057 w10059 w10058 w10061 w10062 w10063 w10064 w10065 w10067 w10066 w10068 w10072 w10071 a10073 ⊢) <;> first | omega | ((try simp (disch := omega) only [zb] at u5318 xq2 h5319 xq12 h5332 xq14 a5352 u5353 h5354 h5355 h8082 h9318 h9573 a9828 h9829 w9830 w9831 r9832 r9833 r9834 h9835 h9855 h9975 h10020 w10045 w10046 w10047 w10049 w10050 w10052 w10051 w10053 w10055 w10056 w10057 w10059 w10058 w10061 w10062 w10063 w10064 w10065 w10067 w10066 w10068 w10072 w10071 a10073 ⊢) <;> omega))⟩
                · refine sw_ite (fun h10074 => ?_) (fun h10074 => ?_)
                  · unfold fX9_pair_222
                    unfold fX9_pair_228
                    have w10075 : mm_I s11 q17 ((0 : Int32).toNatClampNeg) = mm_I q2.2 q17 ((0 : Int32).toNatClampNeg) := by rw [← es11]; exact rd_k tq17 tq5 (by decide)
                    have w10076 := (gq2.2.2 _ _ tq17 ((0 : Int32).toNatClampNeg) rfl).1
                    have r10077 := ci_rg c0 tq17 ((0 : Int32).toNatClampNeg) (lo := (-1)) (hi := 3) rfl
                    have r10078 := ci_rg cq2 tq17 ((0 : Int32).toNatClampNeg) (lo := (-1)) (hi := 3) rfl
                    have r10079 := ci_rg cs11 tq17 ((0 : Int32).toNatClampNeg) (lo := (-1)) (hi := 3) rfl
                    refine sw_ite (fun h10080 => ?_) (fun h10080 => ?_)
                    · have w10081 : mm_I s11 p0 0 = mm_I q2.2 p0 0 := by rw [← es11]; exact rd_k t_p0 tq5 (by decide)
                      have w10084 : rdA s11 p0 9 1 = mm_I s11 q17 ((1 : Int32)).toNatClampNeg := rdA_eq eq17
                      have w10083 : rdA s11 p0 9 1 = rdA q2.2 p0 9 1 := by rw [← es11]; exact rdA_k cq2 t_p0 (κ' := 59) rfl tq5 (by decide)
                      have w10085 := rdA_fr (k := 9) (j := 1) gq2 c0 t_p0 (κ' := 59) rfl rfl rfl
                      have w10087 : rdA s11 p0 10 1 = rdA q2.2 p0 10 1 := by rw [← es11]; exact rdA_j (by decide)
                      have w10089 : rdA q2.2 p0 10 1 = mm_I q2.2 q5 ((1 : Int32)).toNatClampNeg := rdA_eq eq5
                      have w10088 := rdA_fr (k := 10) (j := 1) gq2 c0 t_p0 (κ' := 60) rfl rfl rfl
                      have w10091 : rdA s11 p0 10 0 = -1 := by rw [← es11]; exact rdA_self eq5
                      have w10093 : rdA s11 p0 9 0 = mm_I s11 q17 ((0 : Int32)).toNatClampNeg := rdA_eq eq17
                      have w10092 : rdA s11 p0 9 0 = rdA q2.2 p0 9 0 := by rw [← es11]; exact rdA_k cq2 t_p0 (κ' := 59) rfl tq5 (by decide)
                      have w10094 := rdA_fr (k := 9) (j := 0) gq2 c0 t_p0 (κ' := 59) rfl rfl rfl
                      have w10098 : rdA q2.2 p0 10 0 = mm_I q2.2 q5 ((0 : Int32)).toNatClampNeg := rdA_eq eq5
                      have w10097 := rdA_fr (k := 10) (j := 0) gq2 c0 t_p0 (κ' := 60) rfl rfl rfl
                      have a10099 := zi_and p2 8 (by decide)
                      exact sw_some ⟨cs11, fs11, (by (try simp only [zp, zo, zq] at u5318 xq2 h5319 xq12 h5332 xq14 a5352 u5353 h5354 h5355 h8082 h9318 h9573 a9828 h9829 h10074 w10075 w10076 r10077 r10078 r10079 h10080 w10081 w10084 w10083 w10085 w10087 w10089 w10088 w10091 w10093 w10092 w10094 w10098 w10097 a10099 ⊢) <;> (try simp only [zz, Int32.reduceToInt, ne_eq] at u5318 xq2 h5319 xq12 h5332 xq14 a5352 u5353 h5354 h5355 h8082 h9318 h9573 a9828 h9829 h10074 w10075 w10076 r10077 r10078 r10079 h10080 w10081 w10084 w10083 w10085 w10087 w10089 w10088 w10091 w10093 w10092 w10094 w10098 w10097 a10099 ⊢) <;> (try simp (disch := omega) only [zb] at u5318 xq2 h5319 xq12 h5332 xq14 a5352 u5353 h5354 h5355 h8082 h9318 h9573 a9828 h9829 h10074 w10075 w10076 r10077 r10078 r10079 h10080 w10081 w10084 w10083 w10085 w10087 w10089 w10088 w10091 w10093 w10092 w10094 w10098 w10097 a10099 ⊢) <;> first | omega | ((try simp (disch := omega) only [zb] at u5318 xq2 h5319 xq12 h5332 xq14 a5352 u5353 h5354 h5355 h8082 h9318 h9573 a9828 h9829 h10074 w10075 w10076 r10077 r10078 r10079 h10080 w10081 w10084 w10083 w10085 w10087 w10089 w10088 w10091 w10093 w10092 w10094 w10098 w10097 a10099 ⊢) <;> omega))⟩
                    · refine sw_ite (fun h10100 => ?_) (fun h10100 => ?_)
                      · refine sw_ite (fun h10101 => ?_) (fun h10101 => ?_)
                        · have w10102 : mm_I s11 p0 0 = mm_I q2.2 p0 0 := by rw [← es11]; exact rd_k t_p0 tq5 (by decide)
                          have w10105 : rdA s11 p0 9 1 = mm_I s11 q17 ((1 : Int32)).toNatClampNeg := rdA_eq eq17
                          have w10104 : rdA s11 p0 9 1 = rdA q2.2 p0 9 1 := by rw [← es11]; exact rdA_k cq2 t_p0 (κ' := 59) rfl tq5 (by decide)
                          have w10106 := rdA_fr (k := 9) (j := 1) gq2 c0 t_p0 (κ' := 59) rfl rfl rfl
                          have w10108 : rdA s11 p0 10 1 = rdA q2.2 p0 10 1 := by rw [← es11]; exact rdA_j (by decide)
                          have w10110 : rdA q2.2 p0 10 1 = mm_I q2.2 q5 ((1 : Int32)).toNatClampNeg := rdA_eq eq5
                          have w10109 := rdA_fr (k := 10) (j := 1) gq2 c0 t_p0 (κ' := 60) rfl rfl rfl
                          have w10112 : rdA s11 p0 10 0 = -1 := by rw [← es11]; exact rdA_self eq5
                          have w10114 : rdA s11 p0 9 0 = mm_I s11 q17 ((0 : Int32)).toNatClampNeg := rdA_eq eq17
                          have w10113 : rdA s11 p0 9 0 = rdA q2.2 p0 9 0 := by rw [← es11]; exact rdA_k cq2 t_p0 (κ' := 59) rfl tq5 (by decide)
                          have w10115 := rdA_fr (k := 9) (j := 0) gq2 c0 t_p0 (κ' := 59) rfl rfl rfl
                          have w10119 : rdA q2.2 p0 10 0 = mm_I q2.2 q5 ((0 : Int32)).toNatClampNeg := rdA_eq eq5
                          have w10118 := rdA_fr (k := 10) (j := 0) gq2 c0 t_p0 (κ' := 60) rfl rfl rfl
                          have a10120 := zi_and p2 8 (by decide)
                          exact sw_some ⟨cs11, fs11, (by (try simp only [zp, zo, zq] at u5318 xq2 h5319 xq12 h5332 xq14 a5352 u5353 h5354 h5355 h8082 h9318 h9573 a9828 h9829 h10074 w10075 w10076 r10077 r10078 r10079 h10080 h10100 h10101 w10102 w10105 w10104 w10106 w10108 w10110 w10109 w10112 w10114 w10113 w10115 w10119 w10118 a10120 ⊢) <;> (try simp only [zz, Int32.reduceToInt, ne_eq] at u5318 xq2 h5319 xq12 h5332 xq14 a5352 u5353 h5354 h5355 h8082 h9318 h9573 a9828 h9829 h10074 w10075 w10076 r10077 r10078 r10079 h10080 h10100 h10101 w10102 w10105 w10104 w10106 w10108 w10110 w10109 w10112 w10114 w10113 w10115 w10119 w10118 a10120 ⊢) <;> (try simp (disch := omega) only [zb] at u5318 xq2 h5319 xq12 h5332 xq14 a5352 u5353 h5354 h5355 h8082 h9318 h9573 a9828 h9829 h10074 w10075 w10076 r10077 r10078 r10079 h10080 h10100 h10101 w10102 w10105 w10104 w10106 w10108 w10110 w10109 w10112 w10114 w10113 w10115 w10119 w10118 a10120 ⊢) <;> first | omega | ((try simp (disch := omega) only [zb] at u5318 xq2 h5319 xq12 h5332 xq14 a5352 u5353 h5354 h5355 h8082 h9318 h9573 a9828 h9829 h10074 w10075 w10076 r10077 r10078 r10079 h10080 h10100 h10101 w10102 w10105 w10104 w10106 w10108 w10110 w10109 w10112 w10114 w10113 w10115 w10119 w10118 a10120 ⊢) <;> omega))⟩
                        · unfold fX9_pair_250
                          refine sw_ite (fun h10121 => ?_) (fun h10121 => ?_)
                          · unfold fX9_pair_264
                            refine sw_ite (fun h10122 => ?_) (fun h10122 => ?_)
                            · have w10123 : mm_I s11 p0 0 = mm_I q2.2 p0 0 := by rw [← es11]; exact rd_k t_p0 tq5 (by decide)
                              have w10126 : rdA s11 p0 9 1 = mm_I s11 q17 ((1 : Int32)).toNatClampNeg := rdA_eq eq17
                              have w10125 : rdA s11 p0 9 1 = rdA q2.2 p0 9 1 := by rw [← es11]; exact rdA_k cq2 t_p0 (κ' := 59) rfl tq5 (by decide)
                              have w10127 := rdA_fr (k := 9) (j := 1) gq2 c0 t_p0 (κ' := 59) rfl rfl rfl
                              have w10129 : rdA s11 p0 10 1 = rdA q2.2 p0 10 1 := by rw [← es11]; exact rdA_j (by decide)
                              have w10131 : rdA q2.2 p0 10 1 = mm_I q2.2 q5 ((1 : Int32)).toNatClampNeg := rdA_eq eq5
                              have w10130 := rdA_fr (k := 10) (j := 1) gq2 c0 t_p0 (κ' := 60) rfl rfl rfl
                              have w10133 : rdA s11 p0 10 0 = -1 := by rw [← es11]; exact rdA_self eq5
                              have w10135 : rdA s11 p0 9 0 = mm_I s11 q17 ((0 : Int32)).toNatClampNeg := rdA_eq eq17
                              have w10134 : rdA s11 p0 9 0 = rdA q2.2 p0 9 0 := by rw [← es11]; exact rdA_k cq2 t_p0 (κ' := 59) rfl tq5 (by decide)
                              have w10136 := rdA_fr (k := 9) (j := 0) gq2 c0 t_p0 (κ' := 59) rfl rfl rfl
                              have w10140 : rdA q2.2 p0 10 0 = mm_I q2.2 q5 ((0 : Int32)).toNatClampNeg := rdA_eq eq5
                              have w10139 := rdA_fr (k := 10) (j := 0) gq2 c0 t_p0 (κ' := 60) rfl rfl rfl
                              have a10141 := zi_and p2 8 (by decide)
                              exact sw_some ⟨cs11, fs11, (by (try simp only [zp, zo, zq] at u5318 xq2 h5319 xq12 h5332 xq14 a5352 u5353 h5354 h5355 h8082 h9318 h9573 a9828 h9829 h10074 w10075 w10076 r10077 r10078 r10079 h10080 h10100 h10101 h10121 h10122 w10123 w10126 w10125 w10127 w10129 w10131 w10130 w10133 w10135 w10134 w10136 w10140 w10139 a10141 ⊢) <;> (try simp only [zz, Int32.reduceToInt, ne_eq] at u5318 xq2 h5319 xq12 h5332 xq14 a5352 u5353 h5354 h5355 h8082 h9318 h9573 a9828 h9829 h10074 w10075 w10076 r10077 r10078 r10079 h10080 h10100 h10101 h10121 h10122 w10123 w10126 w10125 w10127 w10129 w10131 w10130 w10133 w10135 w10134 w10136 w10140 w10139 a10141 ⊢) <;> (try simp (disch := omega) only [zb] at u5318 xq2 h5319 xq12 h5332 xq14 a5352 u5353 h5354 h5355 h8082 h9318 h9573 a9828 h9829 h10074 w10075 w10076 r10077 r10078 r10079 h10080 h10100 h10101 h10121 h10122 w10123 w10126 w10125 w10127 w10129 w10131 w10130 w10133 w10135 w10134 w10136 w10140 w10139 a10141 ⊢) <;> first | omega | ((try simp (disch := omega) only [zb] at u5318 xq2 h5319 xq12 h5332 xq14 a5352 u5353 h5354 h5355 h8082 h9318 h9573 a9828 h9829 h10074 w10075 w10076 r10077 r10078 r10079 h10080 h10100 h10101 h10121 h10122 w10123 w10126 w10125 w10127 w10129 w10131 w10130 w10133 w10135 w10134 w10136 w10140 w10139 a10141 ⊢) <;> omega))⟩
                            · refine sw_sh (ci_sh cs11 t_p0 rfl) ?_
                              refine sw_on (sX9_put cs11 t_p0 (by (try simp only [zp, zo, zq] at u5318 xq2 h5319 xq12 h5332 xq14 a5352 u5353 h5354 h5355 h8082 h9318 h9573 a9828 h9829 h10074 w10075 w10076 r10077 r10078 r10079 h10080 h10100 h10101 h10121 h10122 ⊢) <;> (try simp only [zz, Int32.reduceToInt, ne_eq] at u5318 xq2 h5319 xq12 h5332 xq14 a5352 u5353 h5354 h5355 h8082 h9318 h9573 a9828 h9829 h10074 w10075 w10076 r10077 r10078 r10079 h10080 h10100 h10101 h10121 h10122 ⊢) <;> (try simp (disch := omega) only [zb] at u5318 xq2 h5319 xq12 h5332 xq14 a5352 u5353 h5354 h5355 h8082 h9318 h9573 a9828 h9829 h10074 w10075 w10076 r10077 r10078 r10079 h10080 h10100 h10101 h10121 h10122 ⊢) <;> first | omega | ((try simp (disch := omega) only [zb] at u5318 xq2 h5319 xq12 h5332 xq14 a5352 u5353 h5354 h5355 h8082 h9318 h9573 a9828 h9829 h10074 w10075 w10076 r10077 r10078 r10079 h10080 h10100 h10101 h10121 h10122 ⊢) <;> omega)) ) ?_
                              intro q28 hqq28
                              obtain ⟨cq28, gq28, xq28⟩ := hqq28
                              have fq28 := fr_trans fs11 gq28 rfl
                              have w10142 := (gq28.2.2 _ _ t_p0 0 rfl).1
                              have w10143 : mm_I s11 p0 0 = mm_I q2.2 p0 0 := by rw [← es11]; exact rd_k t_p0 tq5 (by decide)
                              have w10145 := rdA_fr (k := 9) (j := 1) gq28 cs11 t_p0 (κ' := 59) rfl rfl rfl
                              have w10147 : rdA s11 p0 9 1 = mm_I s11 q17 ((1 : Int32)).toNatClampNeg := rdA_eq eq17
                              have w10146 : rdA s11 p0 9 1 = rdA q2.2 p0 9 1 := by rw [← es11]; exact rdA_k cq2 t_p0 (κ' := 59) rfl tq5 (by decide)
                              have w10148 := rdA_fr (k := 9) (j := 1) gq2 c0 t_p0 (κ' := 59) rfl rfl rfl
                              have w10150 := rdA_fr (k := 10) (j := 1) gq28 cs11 t_p0 (κ' := 60) rfl rfl rfl
                              have w10151 : rdA s11 p0 10 1 = rdA q2.2 p0 10 1 := by rw [← es11]; exact rdA_j (by decide)
                              have w10153 : rdA q2.2 p0 10 1 = mm_I q2.2 q5 ((1 : Int32)).toNatClampNeg := rdA_eq eq5
                              have w10152 := rdA_fr (k := 10) (j := 1) gq2 c0 t_p0 (κ' := 60) rfl rfl rfl
                              have w10155 := rdA_fr (k := 10) (j := 0) gq28 cs11 t_p0 (κ' := 60) rfl rfl rfl
                              have w10156 : rdA s11 p0 10 0 = -1 := by rw [← es11]; exact rdA_self eq5
                              have w10157 := rdA_fr (k := 9) (j := 0) gq28 cs11 t_p0 (κ' := 59) rfl rfl rfl
                              have w10159 : rdA s11 p0 9 0 = mm_I s11 q17 ((0 : Int32)).toNatClampNeg := rdA_eq eq17
                              have w10158 : rdA s11 p0 9 0 = rdA q2.2 p0 9 0 := by rw [← es11]; exact rdA_k cq2 t_p0 (κ' := 59) rfl tq5 (by decide)
                              have w10160 := rdA_fr (k := 9) (j := 0) gq2 c0 t_p0 (κ' := 59) rfl rfl rfl
                              have w10164 : rdA q2.2 p0 10 0 = mm_I q2.2 q5 ((0 : Int32)).toNatClampNeg := rdA_eq eq5
                              have w10163 := rdA_fr (k := 10) (j := 0) gq2 c0 t_p0 (κ' := 60) rfl rfl rfl
                              have a10165 := zi_and p2 8 (by decide)
                              exact sw_some ⟨cq28, fq28, (by (try simp only [zp, zo, zq] at u5318 xq2 h5319 xq12 h5332 xq14 a5352 u5353 h5354 h5355 h8082 h9318 h9573 a9828 h9829 h10074 w10075 w10076 r10077 r10078 r10079 h10080 h10100 h10101 h10121 h10122 w10142 w10143 w10145 w10147 w10146 w10148 w10150 w10151 w10153 w10152 w10155 w10156 w10157 w10159 w10158 w10160 w10164 w10163 a10165 ⊢) <;> (try simp only [zz, Int32.reduceToInt, ne_eq] at u5318 xq2 h5319 xq12 h5332 xq14 a5352 u5353 h5354 h5355 h8082 h9318 h9573 a9828 h9829 h10074 w10075 w10076 r10077 r10078 r10079 h10080 h10100 h10101 h10121 h10122 w10142 w10143 w10145 w10147 w10146 w10148 w10150 w10151 w10153 w10152 w10155 w10156 w10157 w10159 w10158 w10160 w10164 w10163 a10165 ⊢) <;> (try simp (disch := omega) only [zb] at u5318 xq2 h5319 xq12 h5332 xq14 a5352 u5353 h5354 h5355 h8082 h9318 h9573 a9828 h9829 h10074 w10075 w10076 r10077 r10078 r10079 h10080 h10100 h10101 h10121 h10122 w10142 w10143 w10145 w10147 w10146 w10148 w10150 w10151 w10153 w10152 w10155 w10156 w10157 w10159 w10158 w10160 w10164 w10163 a10165 ⊢) <;> first | omega | ((try simp (disch := omega) only [zb] at u5318 xq2 h5319 xq12 h5332 xq14 a5352 u5353 h5354 h5355 h8082 h9318 h9573 a9828 h9829 h10074 w10075 w10076 r10077 r10078 r10079 h10080 h10100 h10101 h10121 h10122 w10142 w10143 w10145 w10147 w10146 w10148 w10150 w10151 w10153 w10152 w10155 w10156 w10157 w10159 w10158 w10160 w10164 w10163 a10165 ⊢) <;> omega))⟩
                          · refine sw_sh (ci_sh cs11 t_p0 rfl) ?_
                            refine sw_on (sX9_put cs11 t_p0 (by (try simp only [zp, zo, zq] at u5318 xq2 h5319 xq12 h5332 xq14 a5352 u5353 h5354 h5355 h8082 h9318 h9573 a9828 h9829 h10074 w10075 w10076 r10077 r10078 r10079 h10080 h10100 h10101 h10121 ⊢) <;> (try simp only [zz, Int32.reduceToInt, ne_eq] at u5318 xq2 h5319 xq12 h5332 xq14 a5352 u5353 h5354 h5355 h8082 h9318 h9573 a9828 h9829 h10074 w10075 w10076 r10077 r10078 r10079 h10080 h10100 h10101 h10121 ⊢) <;> (try simp (disch := omega) only [zb] at u5318 xq2 h5319 xq12 h5332 xq14 a5352 u5353 h5354 h5355 h8082 h9318 h9573 a9828 h9829 h10074 w10075 w10076 r10077 r10078 r10079 h10080 h10100 h10101 h10121 ⊢) <;> first | omega | ((try simp (disch := omega) only [zb] at u5318 xq2 h5319 xq12 h5332 xq14 a5352 u5353 h5354 h5355 h8082 h9318 h9573 a9828 h9829 h10074 w10075 w10076 r10077 r10078 r10079 h10080 h10100 h10101 h10121 ⊢) <;> omega)) ) ?_
                            intro q30 hqq30
                            obtain ⟨cq30, gq30, xq30⟩ := hqq30
                            have fq30 := fr_trans fs11 gq30 rfl
                            unfold fX9_pair_264
                            refine sw_ite (fun h10166 => ?_) (fun h10166 => ?_)
                            · have w10167 := (gq30.2.2 _ _ t_p0 0 rfl).1
                              have w10168 : mm_I s11 p0 0 = mm_I q2.2 p0 0 := by rw [← es11]; exact rd_k t_p0 tq5 (by decide)
                              have w10170 := rdA_fr (k := 9) (j := 1) gq30 cs11 t_p0 (κ' := 59) rfl rfl rfl
                              have w10172 : rdA s11 p0 9 1 = mm_I s11 q17 ((1 : Int32)).toNatClampNeg := rdA_eq eq17
                              have w10171 : rdA s11 p0 9 1 = rdA q2.2 p0 9 1 := by rw [← es11]; exact rdA_k cq2 t_p0 (κ' := 59) rfl tq5 (by decide)
                              have w10173 := rdA_fr (k := 9) (j := 1) gq2 c0 t_p0 (κ' := 59) rfl rfl rfl
                              have w10175 := rdA_fr (k := 10) (j := 1) gq30 cs11 t_p0 (κ' := 60) rfl rfl rfl
                              have w10176 : rdA s11 p0 10 1 = rdA q2.2 p0 10 1 := by rw [← es11]; exact rdA_j (by decide)
                              have w10178 : rdA q2.2 p0 10 1 = mm_I q2.2 q5 ((1 : Int32)).toNatClampNeg := rdA_eq eq5
                              have w10177 := rdA_fr (k := 10) (j := 1) gq2 c0 t_p0 (κ' := 60) rfl rfl rfl
                              have w10180 := rdA_fr (k := 10) (j := 0) gq30 cs11 t_p0 (κ' := 60) rfl rfl rfl
                              have w10181 : rdA s11 p0 10 0 = -1 := by rw [← es11]; exact rdA_self eq5
                              have w10182 := rdA_fr (k := 9) (j := 0) gq30 cs11 t_p0 (κ' := 59) rfl rfl rfl
                              have w10184 : rdA s11 p0 9 0 = mm_I s11 q17 ((0 : Int32)).toNatClampNeg := rdA_eq eq17
                              have w10183 : rdA s11 p0 9 0 = rdA q2.2 p0 9 0 := by rw [← es11]; exact rdA_k cq2 t_p0 (κ' := 59) rfl tq5 (by decide)
                              have w10185 := rdA_fr (k := 9) (j := 0) gq2 c0 t_p0 (κ' := 59) rfl rfl rfl
                              have w10189 : rdA q2.2 p0 10 0 = mm_I q2.2 q5 ((0 : Int32)).toNatClampNeg := rdA_eq eq5
                              have w10188 := rdA_fr (k := 10) (j := 0) gq2 c0 t_p0 (κ' := 60) rfl rfl rfl
                              have a10190 := zi_and p2 8 (by decide)
                              exact sw_some ⟨cq30, fq30, (by (try simp only [zp, zo, zq] at u5318 xq2 h5319 xq12 h5332 xq14 a5352 u5353 h5354 h5355 h8082 h9318 h9573 a9828 h9829 h10074 w10075 w10076 r10077 r10078 r10079 h10080 h10100 h10101 h10121 h10166 w10167 w10168 w10170 w10172 w10171 w10173 w10175 w10176 w10178 w10177 w10180 w10181 w10182 w10184 w10183 w10185 w10189 w10188 a10190 ⊢) <;> (try simp only [zz, Int32.reduceToInt, ne_eq] at u5318 xq2 h5319 xq12 h5332 xq14 a5352 u5353 h5354 h5355 h8082 h9318 h9573 a9828 h9829 h10074 w10075 w10076 r10077 r10078 r10079 h10080 h10100 h10101 h10121 h10166 w10167 w10168 w10170 w10172 w10171 w10173 w10175 w10176 w10178 w10177 w10180 w10181 w10182 w10184 w10183 w10185 w10189 w10188 a10190 ⊢) <;> (try simp (disch := omega) only [zb] at u5318 xq2 h5319 xq12 h5332 xq14 a5352 u5353 h5354 h5355 h8082 h9318 h9573 a9828 h9829 h10074 w10075 w10076 r10077 r10078 r10079 h10080 h10100 h10101 h10121 h10166 w10167 w10168 w10170 w10172 w10171 w10173 w10175 w10176 w10178 w10177 w10180 w10181 w10182 w10184 w10183 w10185 w10189 w10188 a10190 ⊢) <;> first | omega | ((try simp (disch := omega) only [zb] at u5318 xq2 h5319 xq12 h5332 xq14 a5352 u5353 h5354 h5355 h8082 h9318 h9573 a9828 h9829 h10074 w10075 w10076 r10077 r10078 r10079 h10080 h10100 h10101 h10121 h10166 w10167 w10168 w10170 w10172 w10171 w10173 w10175 w10176 w10178 w10177 w10180 w10181 w10182 w10184 w10183 w10185 w10189 w10188 a10190 ⊢) <;> omega))⟩
                            · refine sw_sh (ci_sh cq30 t_p0 rfl) ?_
                              refine sw_on (sX9_put cq30 t_p0 (by (try simp only [zp, zo, zq] at u5318 xq2 h5319 xq12 h5332 xq14 a5352 u5353 h5354 h5355 h8082 h9318 h9573 a9828 h9829 h10074 w10075 w10076 r10077 r10078 r10079 h10080 h10100 h10101 h10121 h10166 ⊢) <;> (try simp only [zz, Int32.reduceToInt, ne_eq] at u5318 xq2 h5319 xq12 h5332 xq14 a5352 u5353 h5354 h5355 h8082 h9318 h9573 a9828 h9829 h10074 w10075 w10076 r10077 r10078 r10079 h10080 h10100 h10101 h10121 h10166 ⊢) <;> (try simp (disch := omega) only [zb] at u5318 xq2 h5319 xq12 h5332 xq14 a5352 u5353 h5354 h5355 h8082 h9318 h9573 a9828 h9829 h10074 w10075 w10076 r10077 r10078 r10079 h10080 h10100 h10101 h10121 h10166 ⊢) <;> first | omega | ((try simp (disch := omega) only [zb] at u5318 xq2 h5319 xq12 h5332 xq14 a5352 u5353 h5354 h5355 h8082 h9318 h9573 a9828 h9829 h10074 w10075 w10076 r10077 r10078 r10079 h10080 h10100 h10101 h10121 h10166 ⊢) <;> omega)) ) ?_
                              intro q28 hqq28
                              obtain ⟨cq28, gq28, xq28⟩ := hqq28
                              have fq28 := fr_trans fq30 gq28 rfl
                              have w10191 := (gq28.2.2 _ _ t_p0 0 rfl).1
                              have w10192 := (gq30.2.2 _ _ t_p0 0 rfl).1
                              have w10193 : mm_I s11 p0 0 = mm_I q2.2 p0 0 := by rw [← es11]; exact rd_k t_p0 tq5 (by decide)
                              have w10195 := rdA_fr (k := 9) (j := 1) gq28 cq30 t_p0 (κ' := 59) rfl rfl rfl
                              have w10196 := rdA_fr (k := 9) (j := 1) gq30 cs11 t_p0 (κ' := 59) rfl rfl rfl
                              have w10198 : rdA s11 p0 9 1 = mm_I s11 q17 ((1 : Int32)).toNatClampNeg := rdA_eq eq17
                              have w10197 : rdA s11 p0 9 1 = rdA q2.2 p0 9 1 := by rw [← es11]; exact rdA_k cq2 t_p0 (κ' := 59) rfl tq5 (by decide)
                              have w10199 := rdA_fr (k := 9) (j := 1) gq2 c0 t_p0 (κ' := 59) rfl rfl rfl
                              have w10201 := rdA_fr (k := 10) (j := 1) gq28 cq30 t_p0 (κ' := 60) rfl rfl rfl
                              have w10202 := rdA_fr (k := 10) (j := 1) gq30 cs11 t_p0 (κ' := 60) rfl rfl rfl
                              have w10203 : rdA s11 p0 10 1 = rdA q2.2 p0 10 1 := by rw [← es11]; exact rdA_j (by decide)
                              have w10205 : rdA q2.2 p0 10 1 = mm_I q2.2 q5 ((1 : Int32)).toNatClampNeg := rdA_eq eq5
                              have w10204 := rdA_fr (k := 10) (j := 1) gq2 c0 t_p0 (κ' := 60) rfl rfl rfl
                              have w10207 := rdA_fr (k := 10) (j := 0) gq28 cq30 t_p0 (κ' := 60) rfl rfl rfl
                              have w10208 := rdA_fr (k := 10) (j := 0) gq30 cs11 t_p0 (κ' := 60) rfl rfl rfl
                              have w10209 : rdA s11 p0 10 0 = -1 := by rw [← es11]; exact rdA_self eq5
                              have w10210 := rdA_fr (k := 9) (j := 0) gq28 cq30 t_p0 (κ' := 59) rfl rfl rfl
                              have w10211 := rdA_fr (k := 9) (j := 0) gq30 cs11 t_p0 (κ' := 59) rfl rfl rfl
                              have w10213 : rdA s11 p0 9 0 = mm_I s11 q17 ((0 : Int32)).toNatClampNeg := rdA_eq eq17
                              have w10212 : rdA s11 p0 9 0 = rdA q2.2 p0 9 0 := by rw [← es11]; exact rdA_k cq2 t_p0 (κ' := 59) rfl tq5 (by decide)
                              have w10214 := rdA_fr (k := 9) (j := 0) gq2 c0 t_p0 (κ' := 59) rfl rfl rfl
                              have w10218 : rdA q2.2 p0 10 0 = mm_I q2.2 q5 ((0 : Int32)).toNatClampNeg := rdA_eq eq5
                              have w10217 := rdA_fr (k := 10) (j := 0) gq2 c0 t_p0 (κ' := 60) rfl rfl rfl
                              have a10219 := zi_and p2 8 (by decide)
                              exact sw_some ⟨cq28, fq28, (by (try simp only [zp, zo, zq] at u5318 xq2 h5319 xq12 h5332 xq14 a5352 u5353 h5354 h5355 h8082 h9318 h9573 a9828 h9829 h10074 w10075 w10076 r10077 r10078 r10079 h10080 h10100 h10101 h10121 h10166 w10191 w10192 w10193 w10195 w10196 w10198 w10197 w10199 w10201 w10202 w10203 w10205 w10204 w10207 w10208 w10209 w10210 w10211 w10213 w10212 w10214 w10218 w10217 a10219 ⊢) <;> (try simp only [zz, Int32.reduceToInt, ne_eq] at u5318 xq2 h5319 xq12 h5332 xq14 a5352 u5353 h5354 h5355 h8082 h9318 h9573 a9828 h9829 h10074 w10075 w10076 r10077 r10078 r10079 h10080 h10100 h10101 h10121 h10166 w10191 w10192 w10193 w10195 w10196 w10198 w10197 w10199 w10201 w10202 w10203 w10205 w10204 w10207 w10208 w10209 w10210 w10211 w10213 w10212 w10214 w10218 w10217 a10219 ⊢) <;> (try simp (disch := omega) only [zb] at u5318 xq2 h5319 xq12 h5332 xq14 a5352 u5353 h5354 h5355 h8082 h9318 h9573 a9828 h9829 h10074 w10075 w10076 r10077 r10078 r10079 h10080 h10100 h10101 h10121 h10166 w10191 w10192 w10193 w10195 w10196 w10198 w10197 w10199 w10201 w10202 w10203 w10205 w10204 w10207 w10208 w10209 w10210 w10211 w10213 w10212 w10214 w10218 w10217 a10219 ⊢) <;> first | omega | ((try simp (disch := omega) only [zb] at u5318 xq2 h5319 xq12 h5332 xq14 a5352 u5353 h5354 h5355 h8082 h9318 h9573 a9828 h9829 h10074 w10075 w10076 r10077 r10078 r10079 h10080 h10100 h10101 h10121 h10166 w10191 w10192 w10193 w10195 w10196 w10198 w10197 w10199 w10201 w10202 w10203 w10205 w10204 w10207 w10208 w10209 w10210 w10211 w10213 w10212 w10214 w10218 w10217 a10219 ⊢) <;> omega))⟩
                      · unfold fX9_pair_250
                        refine sw_ite (fun h10220 => ?_) (fun h10220 => ?_)
                        · unfold fX9_pair_264
                          refine sw_ite (fun h10221 => ?_) (fun h10221 => ?_)
                          · have w10222 : mm_I s11 p0 0 = mm_I q2.2 p0 0 := by rw [← es11]; exact rd_k t_p0 tq5 (by decide)
                            have w10225 : rdA s11 p0 9 1 = mm_I s11 q17 ((1 : Int32)).toNatClampNeg := rdA_eq eq17
                            have w10224 : rdA s11 p0 9 1 = rdA q2.2 p0 9 1 := by rw [← es11]; exact rdA_k cq2 t_p0 (κ' := 59) rfl tq5 (by decide)
                            have w10226 := rdA_fr (k := 9) (j := 1) gq2 c0 t_p0 (κ' := 59) rfl rfl rfl
                            have w10228 : rdA s11 p0 10 1 = rdA q2.2 p0 10 1 := by rw [← es11]; exact rdA_j (by decide)
                            have w10230 : rdA q2.2 p0 10 1 = mm_I q2.2 q5 ((1 : Int32)).toNatClampNeg := rdA_eq eq5
                            have w10229 := rdA_fr (k := 10) (j := 1) gq2 c0 t_p0 (κ' := 60) rfl rfl rfl
                            have w10232 : rdA s11 p0 10 0 = -1 := by rw [← es11]; exact rdA_self eq5
                            have w10234 : rdA s11 p0 9 0 = mm_I s11 q17 ((0 : Int32)).toNatClampNeg := rdA_eq eq17
                            have w10233 : rdA s11 p0 9 0 = rdA q2.2 p0 9 0 := by rw [← es11]; exact rdA_k cq2 t_p0 (κ' := 59) rfl tq5 (by decide)
                            have w10235 := rdA_fr (k := 9) (j := 0) gq2 c0 t_p0 (κ' := 59) rfl rfl rfl
                            have w10239 : rdA q2.2 p0 10 0 = mm_I q2.2 q5 ((0 : Int32)).toNatClampNeg := rdA_eq eq5
                            have w10238 := rdA_fr (k := 10) (j := 0) gq2 c0 t_p0 (κ' := 60) rfl rfl rfl
                            have a10240 := zi_and p2 8 (by decide)
                            exact sw_some ⟨cs11, fs11, (by (try simp only [zp, zo, zq] at u5318 xq2 h5319 xq12 h5332 xq14 a5352 u5353 h5354 h5355 h8082 h9318 h9573 a9828 h9829 h10074 w10075 w10076 r10077 r10078 r10079 h10080 h10100 h10220 h10221 w10222 w10225 w10224 w10226 w10228 w10230 w10229 w10232 w10234 w10233 w10235 w10239 w10238 a10240 ⊢) <;> (try simp only [zz, Int32.reduceToInt, ne_eq] at u5318 xq2 h5319 xq12 h5332 xq14 a5352 u5353 h5354 h5355 h8082 h9318 h9573 a9828 h9829 h10074 w10075 w10076 r10077 r10078 r10079 h10080 h10100 h10220 h10221 w10222 w10225 w10224 w10226 w10228 w10230 w10229 w10232 w10234 w10233 w10235 w10239 w10238 a10240 ⊢) <;> (try simp (disch := omega) only [zb] at u5318 xq2 h5319 xq12 h5332 xq14 a5352 u5353 h5354 h5355 h8082 h9318 h9573 a9828 h9829 h10074 w10075 w10076 r10077 r10078 r10079 h10080 h10100 h10220 h10221 w10222 w10225 w10224 w10226 w10228 w10230 w10229 w10232 w10234 w10233 w10235 w10239 w10238 a10240 ⊢) <;> first | omega | ((try simp (disch := omega) only [zb] at u5318 xq2 h5319 xq12 h5332 xq14 a5352 u5353 h5354 h5355 h8082 h9318 h9573 a9828 h9829 h10074 w10075 w10076 r10077 r10078 r10079 h10080 h10100 h10220 h10221 w10222 w10225 w10224 w10226 w10228 w10230 w10229 w10232 w10234 w10233 w10235 w10239 w10238 a10240 ⊢) <;> omega))⟩
                          · refine sw_sh (ci_sh cs11 t_p0 rfl) ?_
                            refine sw_on (sX9_put cs11 t_p0 (by (try simp only [zp, zo, zq] at u5318 xq2 h5319 xq12 h5332 xq14 a5352 u5353 h5354 h5355 h8082 h9318 h9573 a9828 h9829 h10074 w10075 w10076 r10077 r10078 r10079 h10080 h10100 h10220 h10221 ⊢) <;> (try simp only [zz, Int32.reduceToInt, ne_eq] at u5318 xq2 h5319 xq12 h5332 xq14 a5352 u5353 h5354 h5355 h8082 h9318 h9573 a9828 h9829 h10074 w10075 w10076 r10077 r10078 r10079 h10080 h10100 h10220 h10221 ⊢) <;> (try simp (disch := omega) only [zb] at u5318 xq2 h5319 xq12 h5332 xq14 a5352 u5353 h5354 h5355 h8082 h9318 h9573 a9828 h9829 h10074 w10075 w10076 r10077 r10078 r10079 h10080 h10100 h10220 h10221 ⊢) <;> first | omega | ((try simp (disch := omega) only [zb] at u5318 xq2 h5319 xq12 h5332 xq14 a5352 u5353 h5354 h5355 h8082 h9318 h9573 a9828 h9829 h10074 w10075 w10076 r10077 r10078 r10079 h10080 h10100 h10220 h10221 ⊢) <;> omega)) ) ?_
                            intro q28 hqq28
                            obtain ⟨cq28, gq28, xq28⟩ := hqq28
                            have fq28 := fr_trans fs11 gq28 rfl
                            have w10241 := (gq28.2.2 _ _ t_p0 0 rfl).1
                            have w10242 : mm_I s11 p0 0 = mm_I q2.2 p0 0 := by rw [← es11]; exact rd_k t_p0 tq5 (by decide)
                            have w10244 := rdA_fr (k := 9) (j := 1) gq28 cs11 t_p0 (κ' := 59) rfl rfl rfl
                            have w10246 : rdA s11 p0 9 1 = mm_I s11 q17 ((1 : Int32)).toNatClampNeg := rdA_eq eq17
                            have w10245 : rdA s11 p0 9 1 = rdA q2.2 p0 9 1 := by rw [← es11]; exact rdA_k cq2 t_p0 (κ' := 59) rfl tq5 (by decide)
                            have w10247 := rdA_fr (k := 9) (j := 1) gq2 c0 t_p0 (κ' := 59) rfl rfl rfl
                            have w10249 := rdA_fr (k := 10) (j := 1) gq28 cs11 t_p0 (κ' := 60) rfl rfl rfl
                            have w10250 : rdA s11 p0 10 1 = rdA q2.2 p0 10 1 := by rw [← es11]; exact rdA_j (by decide)
                            have w10252 : rdA q2.2 p0 10 1 = mm_I q2.2 q5 ((1 : Int32)).toNatClampNeg := rdA_eq eq5
                            have w10251 := rdA_fr (k := 10) (j := 1) gq2 c0 t_p0 (κ' := 60) rfl rfl rfl
                            have w10254 := rdA_fr (k := 10) (j := 0) gq28 cs11 t_p0 (κ' := 60) rfl rfl rfl
                            have w10255 : rdA s11 p0 10 0 = -1 := by rw [← es11]; exact rdA_self eq5
                            have w10256 := rdA_fr (k := 9) (j := 0) gq28 cs11 t_p0 (κ' := 59) rfl rfl rfl
                            have w10258 : rdA s11 p0 9 0 = mm_I s11 q17 ((0 : Int32)).toNatClampNeg := rdA_eq eq17
                            have w10257 : rdA s11 p0 9 0 = rdA q2.2 p0 9 0 := by rw [← es11]; exact rdA_k cq2 t_p0 (κ' := 59) rfl tq5 (by decide)
                            have w10259 := rdA_fr (k := 9) (j := 0) gq2 c0 t_p0 (κ' := 59) rfl rfl rfl
                            have w10263 : rdA q2.2 p0 10 0 = mm_I q2.2 q5 ((0 : Int32)).toNatClampNeg := rdA_eq eq5
                            have w10262 := rdA_fr (k := 10) (j := 0) gq2 c0 t_p0 (κ' := 60) rfl rfl rfl
                            have a10264 := zi_and p2 8 (by decide)
                            exact sw_some ⟨cq28, fq28, (by (try simp only [zp, zo, zq] at u5318 xq2 h5319 xq12 h5332 xq14 a5352 u5353 h5354 h5355 h8082 h9318 h9573 a9828 h9829 h10074 w10075 w10076 r10077 r10078 r10079 h10080 h10100 h10220 h10221 w10241 w10242 w10244 w10246 w10245 w10247 w10249 w10250 w10252 w10251 w10254 w10255 w10256 w10258 w10257 w10259 w10263 w10262 a10264 ⊢) <;> (try simp only [zz, Int32.reduceToInt, ne_eq] at u5318 xq2 h5319 xq12 h5332 xq14 a5352 u5353 h5354 h5355 h8082 h9318 h9573 a9828 h9829 h10074 w10075 w10076 r10077 r10078 r10079 h10080 h10100 h10220 h10221 w10241 w10242 w10244 w10246 w10245 w10247 w10249 w10250 w10252 w10251 w10254 w10255 w10256 w10258 w10257 w10259 w10263 w10262 a10264 ⊢) <;> (try simp (disch := omega) only [zb] at u5318 xq2 h5319 xq12 h5332 xq14 a5352 u5353 h5354 h5355 h8082 h9318 h9573 a9828 h9829 h10074 w10075 w10076 r10077 r10078 r10079 h10080 h10100 h10220 h10221 w10241 w10242 w10244 w10246 w10245 w10247 w10249 w10250 w10252 w10251 w10254 w10255 w10256 w10258 w10257 w10259 w10263 w10262 a10264 ⊢) <;> first | omega | ((try simp (disch := omega) only [zb] at u5318 xq2 h5319 xq12 h5332 xq14 a5352 u5353 h5354 h5355 h8082 h9318 h9573 a9828 h9829 h10074 w10075 w10076 r10077 r10078 r10079 h10080 h10100 h10220 h10221 w10241 w10242 w10244 w10246 w10245 w10247 w10249 w10250 w10252 w10251 w10254 w10255 w10256 w10258 w10257 w10259 w10263 w10262 a10264 ⊢) <;> omega))⟩
                        · refine sw_sh (ci_sh cs11 t_p0 rfl) ?_
                          refine sw_on (sX9_put cs11 t_p0 (by (try simp only [zp, zo, zq] at u5318 xq2 h5319 xq12 h5332 xq14 a5352 u5353 h5354 h5355 h8082 h9318 h9573 a9828 h9829 h10074 w10075 w10076 r10077 r10078 r10079 h10080 h10100 h10220 ⊢) <;> (try simp only [zz, Int32.reduceToInt, ne_eq] at u5318 xq2 h5319 xq12 h5332 xq14 a5352 u5353 h5354 h5355 h8082 h9318 h9573 a9828 h9829 h10074 w10075 w10076 r10077 r10078 r10079 h10080 h10100 h10220 ⊢) <;> (try simp (disch := omega) only [zb] at u5318 xq2 h5319 xq12 h5332 xq14 a5352 u5353 h5354 h5355 h8082 h9318 h9573 a9828 h9829 h10074 w10075 w10076 r10077 r10078 r10079 h10080 h10100 h10220 ⊢) <;> first | omega | ((try simp (disch := omega) only [zb] at u5318 xq2 h5319 xq12 h5332 xq14 a5352 u5353 h5354 h5355 h8082 h9318 h9573 a9828 h9829 h10074 w10075 w10076 r10077 r10078 r10079 h10080 h10100 h10220 ⊢) <;> omega)) ) ?_
                          intro q30 hqq30
                          obtain ⟨cq30, gq30, xq30⟩ := hqq30
                          have fq30 := fr_trans fs11 gq30 rfl
                          unfold fX9_pair_264
                          refine sw_ite (fun h10265 => ?_) (fun h10265 => ?_)
                          · have w10266 := (gq30.2.2 _ _ t_p0 0 rfl).1
                            have w10267 : mm_I s11 p0 0 = mm_I q2.2 p0 0 := by rw [← es11]; exact rd_k t_p0 tq5 (by decide)
                            have w10269 := rdA_fr (k := 9) (j := 1) gq30 cs11 t_p0 (κ' := 59) rfl rfl rfl
                            have w10271 : rdA s11 p0 9 1 = mm_I s11 q17 ((1 : Int32)).toNatClampNeg := rdA_eq eq17
                            have w10270 : rdA s11 p0 9 1 = rdA q2.2 p0 9 1 := by rw [← es11]; exact rdA_k cq2 t_p0 (κ' := 59) rfl tq5 (by decide)
                            have w10272 := rdA_fr (k := 9) (j := 1) gq2 c0 t_p0 (κ' := 59) rfl rfl rfl
                            have w10274 := rdA_fr (k := 10) (j := 1) gq30 cs11 t_p0 (κ' := 60) rfl rfl rfl
                            have w10275 : rdA s11 p0 10 1 = rdA q2.2 p0 10 1 := by rw [← es11]; exact rdA_j (by decide)
                            have w10277 : rdA q2.2 p0 10 1 = mm_I q2.2 q5 ((1 : Int32)).toNatClampNeg := rdA_eq eq5
                            have w10276 := rdA_fr (k := 10) (j := 1) gq2 c0 t_p0 (κ' := 60) rfl rfl rfl
                            have w10279 := rdA_fr (k := 10) (j := 0) gq30 cs11 t_p0 (κ' := 60) rfl rfl rfl
                            have w10280 : rdA s11 p0 10 0 = -1 := by rw [← es11]; exact rdA_self eq5
                            have w10281 := rdA_fr (k := 9) (j := 0) gq30 cs11 t_p0 (κ' := 59) rfl rfl rfl
                            have w10283 : rdA s11 p0 9 0 = mm_I s11 q17 ((0 : Int32)).toNatClampNeg := rdA_eq eq17
                            have w10282 : rdA s11 p0 9 0 = rdA q2.2 p0 9 0 := by rw [← es11]; exact rdA_k cq2 t_p0 (κ' := 59) rfl tq5 (by decide)
                            have w10284 := rdA_fr (k := 9) (j := 0) gq2 c0 t_p0 (κ' := 59) rfl rfl rfl
                            have w10288 : rdA q2.2 p0 10 0 = mm_I q2.2 q5 ((0 : Int32)).toNatClampNeg := rdA_eq eq5
                            have w10287 := rdA_fr (k := 10) (j := 0) gq2 c0 t_p0 (κ' := 60) rfl rfl rfl
                            have a10289 := zi_and p2 8 (by decide)
                            exact sw_some ⟨cq30, fq30, (by (try simp only [zp, zo, zq] at u5318 xq2 h5319 xq12 h5332 xq14 a5352 u5353 h5354 h5355 h8082 h9318 h9573 a9828 h9829 h10074 w10075 w10076 r10077 r10078 r10079 h10080 h10100 h10220 h10265 w10266 w10267 w10269 w10271 w10270 w10272 w10274 w10275 w10277 w10276 w10279 w10280 w10281 w10283 w10282 w10284 w10288 w10287 a10289 ⊢) <;> (try simp only [zz, Int32.reduceToInt, ne_eq] at u5318 xq2 h5319 xq12 h5332 xq14 a5352 u5353 h5354 h5355 h8082 h9318 h9573 a9828 h9829 h10074 w10075 w10076 r10077 r10078 r10079 h10080 h10100 h10220 h10265 w10266 w10267 w10269 w10271 w10270 w10272 w10274 w10275 w10277 w10276 w10279 w10280 w10281 w10283 w10282 w10284 w10288 w10287 a10289 ⊢) <;> (try simp (disch := omega) only [zb] at u5318 xq2 h5319 xq12 h5332 xq14 a5352 u5353 h5354 h5355 h8082 h9318 h9573 a9828 h9829 h10074 w10075 w10076 r10077 r10078 r10079 h10080 h10100 h10220 h10265 w10266 w10267 w10269 w10271 w10270 w10272 w10274 w10275 w10277 w10276 w10279 w10280 w10281 w10283 w10282 w10284 w10288 w10287 a10289 ⊢) <;> first | omega | ((try simp (disch := omega) only [zb] at u5318 xq2 h5319 xq12 h5332 xq14 a5352 u5353 h5354 h5355 h8082 h9318 h9573 a9828 h9829 h10074 w10075 w10076 r10077 r10078 r10079 h10080 h10100 h10220 h10265 w10266 w10267 w10269 w10271 w10270 w10272 w10274 w10275 w10277 w10276 w10279 w10280 w10281 w10283 w10282 w10284 w10288 w10287 a10289 ⊢) <;> omega))⟩
                          · refine sw_sh (ci_sh cq30 t_p0 rfl) ?_
                            refine sw_on (sX9_put cq30 t_p0 (by (try simp only [zp, zo, zq] at u5318 xq2 h5319 xq12 h5332 xq14 a5352 u5353 h5354 h5355 h8082 h9318 h9573 a9828 h9829 h10074 w10075 w10076 r10077 r10078 r10079 h10080 h10100 h10220 h10265 ⊢) <;> (try simp only [zz, Int32.reduceToInt, ne_eq] at u5318 xq2 h5319 xq12 h5332 xq14 a5352 u5353 h5354 h5355 h8082 h9318 h9573 a9828 h9829 h10074 w10075 w10076 r10077 r10078 r10079 h10080 h10100 h10220 h10265 ⊢) <;> (try simp (disch := omega) only [zb] at u5318 xq2 h5319 xq12 h5332 xq14 a5352 u5353 h5354 h5355 h8082 h9318 h9573 a9828 h9829 h10074 w10075 w10076 r10077 r10078 r10079 h10080 h10100 h10220 h10265 ⊢) <;> first | omega | ((try simp (disch := omega) only [zb] at u5318 xq2 h5319 xq12 h5332 xq14 a5352 u5353 h5354 h5355 h8082 h9318 h9573 a9828 h9829 h10074 w10075 w10076 r10077 r10078 r10079 h10080 h10100 h10220 h10265 ⊢) <;> omega)) ) ?_
                            intro q28 hqq28
                            obtain ⟨cq28, gq28, xq28⟩ := hqq28
                            have fq28 := fr_trans fq30 gq28 rfl
                            have w10290 := (gq28.2.2 _ _ t_p0 0 rfl).1
                            have w10291 := (gq30.2.2 _ _ t_p0 0 rfl).1
                            have w10292 : mm_I s11 p0 0 = mm_I q2.2 p0 0 := by rw [← es11]; exact rd_k t_p0 tq5 (by decide)
                            have w10294 := rdA_fr (k := 9) (j := 1) gq28 cq30 t_p0 (κ' := 59) rfl rfl rfl
                            have w10295 := rdA_fr (k := 9) (j := 1) gq30 cs11 t_p0 (κ' := 59) rfl rfl rfl
                            have w10297 : rdA s11 p0 9 1 = mm_I s11 q17 ((1 : Int32)).toNatClampNeg := rdA_eq eq17
                            have w10296 : rdA s11 p0 9 1 = rdA q2.2 p0 9 1 := by rw [← es11]; exact rdA_k cq2 t_p0 (κ' := 59) rfl tq5 (by decide)
                            have w10298 := rdA_fr (k := 9) (j := 1) gq2 c0 t_p0 (κ' := 59) rfl rfl rfl
                            have w10300 := rdA_fr (k := 10) (j := 1) gq28 cq30 t_p0 (κ' := 60) rfl rfl rfl
                            have w10301 := rdA_fr (k := 10) (j := 1) gq30 cs11 t_p0 (κ' := 60) rfl rfl rfl
                            have w10302 : rdA s11 p0 10 1 = rdA q2.2 p0 10 1 := by rw [← es11]; exact rdA_j (by decide)
                            have w10304 : rdA q2.2 p0 10 1 = mm_I q2.2 q5 ((1 : Int32)).toNatClampNeg := rdA_eq eq5
                            have w10303 := rdA_fr (k := 10) (j := 1) gq2 c0 t_p0 (κ' := 60) rfl rfl rfl
                            have w10306 := rdA_fr (k := 10) (j := 0) gq28 cq30 t_p0 (κ' := 60) rfl rfl rfl
                            have w10307 := rdA_fr (k := 10) (j := 0) gq30 cs11 t_p0 (κ' := 60) rfl rfl rfl
                            have w10308 : rdA s11 p0 10 0 = -1 := by rw [← es11]; exact rdA_self eq5
                            have w10309 := rdA_fr (k := 9) (j := 0) gq28 cq30 t_p0 (κ' := 59) rfl rfl rfl
                            have w10310 := rdA_fr (k := 9) (j := 0) gq30 cs11 t_p0 (κ' := 59) rfl rfl rfl
                            have w10312 : rdA s11 p0 9 0 = mm_I s11 q17 ((0 : Int32)).toNatClampNeg := rdA_eq eq17
                            have w10311 : rdA s11 p0 9 0 = rdA q2.2 p0 9 0 := by rw [← es11]; exact rdA_k cq2 t_p0 (κ' := 59) rfl tq5 (by decide)
                            have w10313 := rdA_fr (k := 9) (j := 0) gq2 c0 t_p0 (κ' := 59) rfl rfl rfl
                            have w10317 : rdA q2.2 p0 10 0 = mm_I q2.2 q5 ((0 : Int32)).toNatClampNeg := rdA_eq eq5
                            have w10316 := rdA_fr (k := 10) (j := 0) gq2 c0 t_p0 (κ' := 60) rfl rfl rfl
                            have a10318 := zi_and p2 8 (by decide)
                            exact sw_some ⟨cq28, fq28, (by (try simp only [zp, zo, zq] at u5318 xq2 h5319 xq12 h5332 xq14 a5352 u5353 h5354 h5355 h8082 h9318 h9573 a9828 h9829 h10074 w10075 w10076 r10077 r10078 r10079 h10080 h10100 h10220 h10265 w10290 w10291 w10292 w10294 w10295 w10297 w10296 w10298 w10300 w10301 w10302 w10304 w10303 w10306 w10307 w10308 w10309 w10310 w10312 w10311 w10313 w10317 w10316 a10318 ⊢) <;> (try simp only [zz, Int32.reduceToInt, ne_eq] at u5318 xq2 h5319 xq12 h5332 xq14 a5352 u5353 h5354 h5355 h8082 h9318 h9573 a9828 h9829 h10074 w10075 w10076 r10077 r10078 r10079 h10080 h10100 h10220 h10265 w10290 w10291 w10292 w10294 w10295 w10297 w10296 w10298 w10300 w10301 w10302 w10304 w10303 w10306 w10307 w10308 w10309 w10310 w10312 w10311 w10313 w10317 w10316 a10318 ⊢) <;> (try simp (disch := omega) only [zb] at u5318 xq2 h5319 xq12 h5332 xq14 a5352 u5353 h5354 h5355 h8082 h9318 h9573 a9828 h9829 h10074 w10075 w10076 r10077 r10078 r10079 h10080 h10100 h10220 h10265 w10290 w10291 w10292 w10294 w10295 w10297 w10296 w10298 w10300 w10301 w10302 w10304 w10303 w10306 w10307 w10308 w10309 w10310 w10312 w10311 w10313 w10317 w10316 a10318 ⊢) <;> first | omega | ((try simp (disch := omega) only [zb] at u5318 xq2 h5319 xq12 h5332 xq14 a5352 u5353 h5354 h5355 h8082 h9318 h9573 a9828 h9829 h10074 w10075 w10076 r10077 r10078 r10079 h10080 h10100 h10220 h10265 w10290 w10291 w10292 w10294 w10295 w10297 w10296 w10298 w10300 w10301 w10302 w10304 w10303 w10306 w10307 w10308 w10309 w10310 w10312 w10311 w10313 w10317 w10316 a10318 ⊢) <;> omega))⟩
                  · refine sw_ite (fun h10319 => ?_) (fun h10319 => ?_)
                    · unfold fX9_pair_222
                      unfold fX9_pair_228
                      have w10320 : mm_I s11 q17 ((0 : Int32).toNatClampNeg) = mm_I q2.2 q17 ((0 : Int32).toNatClampNeg) := by rw [← es11]; exact rd_k tq17 tq5 (by decide)
                      have w10321 := (gq2.2.2 _ _ tq17 ((0 : Int32).toNatClampNeg) rfl).1
                      have r10322 := ci_rg c0 tq17 ((0 : Int32).toNatClampNeg) (lo := (-1)) (hi := 3) rfl
                      have r10323 := ci_rg cq2 tq17 ((0 : Int32).toNatClampNeg) (lo := (-1)) (hi := 3) rfl
                      have r10324 := ci_rg cs11 tq17 ((0 : Int32).toNatClampNeg) (lo := (-1)) (hi := 3) rfl
                      refine sw_ite (fun h10325 => ?_) (fun h10325 => ?_)
                      · have w10326 : mm_I s11 p0 0 = mm_I q2.2 p0 0 := by rw [← es11]; exact rd_k t_p0 tq5 (by decide)
                        have w10329 : rdA s11 p0 9 1 = mm_I s11 q17 ((1 : Int32)).toNatClampNeg := rdA_eq eq17
                        have w10328 : rdA s11 p0 9 1 = rdA q2.2 p0 9 1 := by rw [← es11]; exact rdA_k cq2 t_p0 (κ' := 59) rfl tq5 (by decide)
                        have w10330 := rdA_fr (k := 9) (j := 1) gq2 c0 t_p0 (κ' := 59) rfl rfl rfl
                        have w10332 : rdA s11 p0 10 1 = rdA q2.2 p0 10 1 := by rw [← es11]; exact rdA_j (by decide)
                        have w10334 : rdA q2.2 p0 10 1 = mm_I q2.2 q5 ((1 : Int32)).toNatClampNeg := rdA_eq eq5
                        have w10333 := rdA_fr (k := 10) (j := 1) gq2 c0 t_p0 (κ' := 60) rfl rfl rfl
                        have w10336 : rdA s11 p0 10 0 = -1 := by rw [← es11]; exact rdA_self eq5
                        have w10338 : rdA s11 p0 9 0 = mm_I s11 q17 ((0 : Int32)).toNatClampNeg := rdA_eq eq17
                        have w10337 : rdA s11 p0 9 0 = rdA q2.2 p0 9 0 := by rw [← es11]; exact rdA_k cq2 t_p0 (κ' := 59) rfl tq5 (by decide)
                        have w10339 := rdA_fr (k := 9) (j := 0) gq2 c0 t_p0 (κ' := 59) rfl rfl rfl
                        have w10343 : rdA q2.2 p0 10 0 = mm_I q2.2 q5 ((0 : Int32)).toNatClampNeg := rdA_eq eq5
                        have w10342 := rdA_fr (k := 10) (j := 0) gq2 c0 t_p0 (κ' := 60) rfl rfl rfl
                        have a10344 := zi_and p2 8 (by decide)
                        exact sw_some ⟨cs11, fs11, (by (try simp only [zp, zo, zq] at u5318 xq2 h5319 xq12 h5332 xq14 a5352 u5353 h5354 h5355 h8082 h9318 h9573 a9828 h9829 h10074 h10319 w10320 w10321 r10322 r10323 r10324 h10325 w10326 w10329 w10328 w10330 w10332 w10334 w10333 w10336 w10338 w10337 w10339 w10343 w10342 a10344 ⊢) <;> (try simp only [zz, Int32.reduceToInt, ne_eq] at u5318 xq2 h5319 xq12 h5332 xq14 a5352 u5353 h5354 h5355 h8082 h9318 h9573 a9828 h9829 h10074 h10319 w10320 w10321 r10322 r10323 r10324 h10325 w10326 w10329 w10328 w10330 w10332 w10334 w10333 w10336 w10338 w10337 w10339 w10343 w10342 a10344 ⊢) <;> (try simp (disch := omega) only [zb] at u5318 xq2 h5319 xq12 h5332 xq14 a5352 u5353 h5354 h5355 h8082 h9318 h9573 a9828 h9829 h10074 h10319 w10320 w10321 r10322 r10323 r10324 h10325 w10326 w10329 w10328 w10330 w10332 w10334 w10333 w10336 w10338 w10337 w10339 w10343 w10342 a10344 ⊢) <;> first | omega | ((try simp (disch := omega) only [zb] at u5318 xq2 h5319 xq12 h5332 xq14 a5352 u5353 h5354 h5355 h8082 h9318 h9573 a9828 h9829 h10074 h10319 w10320 w10321 r10322 r10323 r10324 h10325 w10326 w10329 w10328 w10330 w10332 w10334 w10333 w10336 w10338 w10337 w10339 w10343 w10342 a10344 ⊢) <;> omega))⟩
                      · refine sw_ite (fun h10345 => ?_) (fun h10345 => ?_)
                        · refine sw_ite (fun h10346 => ?_) (fun h10346 => ?_)
                          · have w10347 : mm_I s11 p0 0 = mm_I q2.2 p0 0 := by rw [← es11]; exact rd_k t_p0 tq5 (by decide)
                            have w10350 : rdA s11 p0 9 1 = mm_I s11 q17 ((1 : Int32)).toNatClampNeg := rdA_eq eq17
                            have w10349 : rdA s11 p0 9 1 = rdA q2.2 p0 9 1 := by rw [← es11]; exact rdA_k cq2 t_p0 (κ' := 59) rfl tq5 (by decide)
                            have w10351 := rdA_fr (k := 9) (j := 1) gq2 c0 t_p0 (κ' := 59) rfl rfl rfl
                            have w10353 : rdA s11 p0 10 1 = rdA q2.2 p0 10 1 := by rw [← es11]; exact rdA_j (by decide)
                            have w10355 : rdA q2.2 p0 10 1 = mm_I q2.2 q5 ((1 : Int32)).toNatClampNeg := rdA_eq eq5
                            have w10354 := rdA_fr (k := 10) (j := 1) gq2 c0 t_p0 (κ' := 60) rfl rfl rfl
                            have w10357 : rdA s11 p0 10 0 = -1 := by rw [← es11]; exact rdA_self eq5
                            have w10359 : rdA s11 p0 9 0 = mm_I s11 q17 ((0 : Int32)).toNatClampNeg := rdA_eq eq17
                            have w10358 : rdA s11 p0 9 0 = rdA q2.2 p0 9 0 := by rw [← es11]; exact rdA_k cq2 t_p0 (κ' := 59) rfl tq5 (by decide)
                            have w10360 := rdA_fr (k := 9) (j := 0) gq2 c0 t_p0 (κ' := 59) rfl rfl rfl
                            have w10364 : rdA q2.2 p0 10 0 = mm_I q2.2 q5 ((0 : Int32)).toNatClampNeg := rdA_eq eq5
                            have w10363 := rdA_fr (k := 10) (j := 0) gq2 c0 t_p0 (κ' := 60) rfl rfl rfl
                            have a10365 := zi_and p2 8 (by decide)
                            exact sw_some ⟨cs11, fs11, (by (try simp only [zp, zo, zq] at u5318 xq2 h5319 xq12 h5332 xq14 a5352 u5353 h5354 h5355 h8082 h9318 h9573 a9828 h9829 h10074 h10319 w10320 w10321 r10322 r10323 r10324 h10325 h10345 h10346 w10347 w10350 w10349 w10351 w10353 w10355 w10354 w10357 w10359 w10358 w10360 w10364 w10363 a10365 ⊢) <;> (try simp only [zz, Int32.reduceToInt, ne_eq] at u5318 xq2 h5319 xq12 h5332 xq14 a5352 u5353 h5354 h5355 h8082 h9318 h9573 a9828 h9829 h10074 h10319 w10320 w10321 r10322 r10323 r10324 h10325 h10345 h10346 w10347 w10350 w10349 w10351 w10353 w10355 w10354 w10357 w10359 w10358 w10360 w10364 w10363 a10365 ⊢) <;> (try simp (disch := omega) only [zb] at u5318 xq2 h5319 xq12 h5332 xq14 a5352 u5353 h5354 h5355 h8082 h9318 h9573 a9828 h9829 h10074 h10319 w10320 w10321 r10322 r10323 r10324 h10325 h10345 h10346 w10347 w10350 w10349 w10351 w10353 w10355 w10354 w10357 w10359 w10358 w10360 w10364 w10363 a10365 ⊢) <;> first | omega | ((try simp (disch := omega) only [zb] at u5318 xq2 h5319 xq12 h5332 xq14 a5352 u5353 h5354 h5355 h8082 h9318 h9573 a9828 h9829 h10074 h10319 w10320 w10321 r10322 r10323 r10324 h10325 h10345 h10346 w10347 w10350 w10349 w10351 w10353 w10355 w10354 w10357 w10359 w10358 w10360 w10364 w10363 a10365 ⊢) <;> omega))⟩
                          · unfold fX9_pair_250
                            refine sw_ite (fun h10366 => ?_) (fun h10366 => ?_)
                            · unfold fX9_pair_264
                              refine sw_ite (fun h10367 => ?_) (fun h10367 => ?_)
                              · have w10368 : mm_I s11 p0 0 = mm_I q2.2 p0 0 := by rw [← es11]; exact rd_k t_p0 tq5 (by decide)
                                have w10371 : rdA s11 p0 9 1 = mm_I s11 q17 ((1 : Int32)).toNatClampNeg := rdA_eq eq17
                                have w10370 : rdA s11 p0 9 1 = rdA q2.2 p0 9 1 := by rw [← es11]; exact rdA_k cq2 t_p0 (κ' := 59) rfl tq5 (by decide)
                                have w10372 := rdA_fr (k := 9) (j := 1) gq2 c0 t_p0 (κ' := 59) rfl rfl rfl
                                have w10374 : rdA s11 p0 10 1 = rdA q2.2 p0 10 1 := by rw [← es11]; exact rdA_j (by decide)
                                have w10376 : rdA q2.2 p0 10 1 = mm_I q2.2 q5 ((1 : Int32)).toNatClampNeg := rdA_eq eq5
                                have w10375 := rdA_fr (k := 10) (j := 1) gq2 c0 t_p0 (κ' := 60) rfl rfl rfl
                                have w10378 : rdA s11 p0 10 0 = -1 := by rw [← es11]; exact rdA_self eq5
                                have w10380 : rdA s11 p0 9 0 = mm_I s11 q17 ((0 : Int32)).toNatClampNeg := rdA_eq eq17
                                have w10379 : rdA s11 p0 9 0 = rdA q2.2 p0 9 0 := by rw [← es11]; exact rdA_k cq2 t_p0 (κ' := 59) rfl tq5 (by decide)
                                have w10381 := rdA_fr (k := 9) (j := 0) gq2 c0 t_p0 (κ' := 59) rfl rfl rfl
                                have w10385 : rdA q2.2 p0 10 0 = mm_I q2.2 q5 ((0 : Int32)).toNatClampNeg := rdA_eq eq5
                                have w10384 := rdA_fr (k := 10) (j := 0) gq2 c0 t_p0 (κ' := 60) rfl rfl rfl
                                have a10386 := zi_and p2 8 (by decide)
                                exact sw_some ⟨cs11, fs11, (by (try simp only [zp, zo, zq] at u5318 xq2 h5319 xq12 h5332 xq14 a5352 u5353 h5354 h5355 h8082 h9318 h9573 a9828 h9829 h10074 h10319 w10320 w10321 r10322 r10323 r10324 h10325 h10345 h10346 h10366 h10367 w10368 w10371 w10370 w10372 w10374 w10376 w10375 w10378 w10380 w10379 w10381 w10385 w10384 a10386 ⊢) <;> (try simp only [zz, Int32.reduceToInt, ne_eq] at u5318 xq2 h5319 xq12 h5332 xq14 a5352 u5353 h5354 h5355 h8082 h9318 h9573 a9828 h9829 h10074 h10319 w10320 w10321 r10322 r10323 r10324 h10325 h10345 h10346 h10366 h10367 w10368 w10371 w10370 w10372 w10374 w10376 w10375 w10378 w10380 w10379 w10381 w10385 w10384 a10386 ⊢) <;> (try simp (disch := omega) only [zb] at u5318 xq2 h5319 xq12 h5332 xq14 a5352 u5353 h5354 h5355 h8082 h9318 h9573 a9828 h9829 h10074 h10319 w10320 w10321 r10322 r10323 r10324 h10325 h10345 h10346 h10366 h10367 w10368 w10371 w10370 w10372 w10374 w10376 w10375 w10378 w10380 w10379 w10381 w10385 w10384 a10386 ⊢) <;> first | omega | ((try simp (disch := omega) only [zb] at u5318 xq2 h5319 xq12 h5332 xq14 a5352 u5353 h5354 h5355 h8082 h9318 h9573 a9828 h9829 h10074 h10319 w10320 w10321 r10322 r10323 r10324 h10325 h10345 h10346 h10366 h10367 w10368 w10371 w10370 w10372 w10374 w10376 w10375 w10378 w10380 w10379 w10381 w10385 w10384 a10386 ⊢) <;> omega))⟩
                              · refine sw_sh (ci_sh cs11 t_p0 rfl) ?_
                                refine sw_on (sX9_put cs11 t_p0 (by (try simp only [zp, zo, zq] at u5318 xq2 h5319 xq12 h5332 xq14 a5352 u5353 h5354 h5355 h8082 h9318 h9573 a9828 h9829 h10074 h10319 w10320 w10321 r10322 r10323 r10324 h10325 h10345 h10346 h10366 h10367 ⊢) <;> (try simp only [zz, Int32.reduceToInt, ne_eq] at u5318 xq2 h5319 xq12 h5332 xq14 a5352 u5353 h5354 h5355 h8082 h9318 h9573 a9828 h9829 h10074 h10319 w10320 w10321 r10322 r10323 r10324 h10325 h10345 h10346 h10366 h10367 ⊢) <;> (try simp (disch := omega) only [zb] at u5318 xq2 h5319 xq12 h5332 xq14 a5352 u5353 h5354 h5355 h8082 h9318 h9573 a9828 h9829 h10074 h10319 w10320 w10321 r10322 r10323 r10324 h10325 h10345 h10346 h10366 h10367 ⊢) <;> first | omega | ((try simp (disch := omega) only [zb] at u5318 xq2 h5319 xq12 h5332 xq14 a5352 u5353 h5354 h5355 h8082 h9318 h9573 a9828 h9829 h10074 h10319 w10320 w10321 r10322 r10323 r10324 h10325 h10345 h10346 h10366 h10367 ⊢) <;> omega)) ) ?_
                                intro q28 hqq28
                                obtain ⟨cq28, gq28, xq28⟩ := hqq28
                                have fq28 := fr_trans fs11 gq28 rfl
                                have w10387 := (gq28.2.2 _ _ t_p0 0 rfl).1
                                have w10388 : mm_I s11 p0 0 = mm_I q2.2 p0 0 := by rw [← es11]; exact rd_k t_p0 tq5 (by decide)
                                have w10390 := rdA_fr (k := 9) (j := 1) gq28 cs11 t_p0 (κ' := 59) rfl rfl rfl
                                have w10392 : rdA s11 p0 9 1 = mm_I s11 q17 ((1 : Int32)).toNatClampNeg := rdA_eq eq17
                                have w10391 : rdA s11 p0 9 1 = rdA q2.2 p0 9 1 := by rw [← es11]; exact rdA_k cq2 t_p0 (κ' := 59) rfl tq5 (by decide)
                                have w10393 := rdA_fr (k := 9) (j := 1) gq2 c0 t_p0 (κ' := 59) rfl rfl rfl
                                have w10395 := rdA_fr (k := 10) (j := 1) gq28 cs11 t_p0 (κ' := 60) rfl rfl rfl
                                have w10396 : rdA s11 p0 10 1 = rdA q2.2 p0 10 1 := by rw [← es11]; exact rdA_j (by decide)
                                have w10398 : rdA q2.2 p0 10 1 = mm_I q2.2 q5 ((1 : Int32)).toNatClampNeg := rdA_eq eq5
                                have w10397 := rdA_fr (k := 10) (j := 1) gq2 c0 t_p0 (κ' := 60) rfl rfl rfl
                                have w10400 := rdA_fr (k := 10) (j := 0) gq28 cs11 t_p0 (κ' := 60) rfl rfl rfl
                                have w10401 : rdA s11 p0 10 0 = -1 := by rw [← es11]; exact rdA_self eq5
                                have w10402 := rdA_fr (k := 9) (j := 0) gq28 cs11 t_p0 (κ' := 59) rfl rfl rfl
                                have w10404 : rdA s11 p0 9 0 = mm_I s11 q17 ((0 : Int32)).toNatClampNeg := rdA_eq eq17
                                have w10403 : rdA s11 p0 9 0 = rdA q2.2 p0 9 0 := by rw [← es11]; exact rdA_k cq2 t_p0 (κ' := 59) rfl tq5 (by decide)
                                have w10405 := rdA_fr (k := 9) (j := 0) gq2 c0 t_p0 (κ' := 59) rfl rfl rfl
                                have w10409 : rdA q2.2 p0 10 0 = mm_I q2.2 q5 ((0 : Int32)).toNatClampNeg := rdA_eq eq5
                                have w10408 := rdA_fr (k := 10) (j := 0) gq2 c0 t_p0 (κ' := 60) rfl rfl rfl
                                have a10410 := zi_and p2 8 (by decide)
                                exact sw_some ⟨cq28, fq28, (by (try simp only [zp, zo, zq] at u5318 xq2 h5319 xq12 h5332 xq14 a5352 u5353 h5354 h5355 h8082 h9318 h9573 a9828 h9829 h10074 h10319 w10320 w10321 r10322 r10323 r10324 h10325 h10345 h10346 h10366 h10367 w10387 w10388 w10390 w10392 w10391 w10393 w10395 w10396 w10398 w10397 w10400 w10401 w10402 w10404 w10403 w10405 w10409 w10408 a10410 ⊢) <;> (try simp only [zz, Int32.reduceToInt, ne_eq] at u5318 xq2 h5319 xq12 h5332 xq14 a5352 u5353 h5354 h5355 h8082 h9318 h9573 a9828 h9829 h10074 h10319 w10320 w10321 r10322 r10323 r10324 h10325 h10345 h10346 h10366 h10367 w10387 w10388 w10390 w10392 w10391 w10393 w10395 w10396 w10398 w10397 w10400 w10401 w10402 w10404 w10403 w10405 w10409 w10408 a10410 ⊢) <;> (try simp (disch := omega) only [zb] at u5318 xq2 h5319 xq12 h5332 xq14 a5352 u5353 h5354 h5355 h8082 h9318 h9573 a9828 h9829 h10074 h10319 w10320 w10321 r10322 r10323 r10324 h10325 h10345 h10346 h10366 h10367 w10387 w10388 w10390 w10392 w10391 w10393 w10395 w10396 w10398 w10397 w10400 w10401 w10402 w10404 w10403 w10405 w10409 w10408 a10410 ⊢) <;> first | omega | ((try simp (disch := omega) only [zb] at u5318 xq2 h5319 xq12 h5332 xq14 a5352 u5353 h5354 h5355 h8082 h9318 h9573 a9828 h9829 h10074 h10319 w10320 w10321 r10322 r10323 r10324 h10325 h10345 h10346 h10366 h10367 w10387 w10388 w10390 w10392 w10391 w10393 w10395 w10396 w10398 w10397 w10400 w10401 w10402 w10404 w10403 w10405 w10409 w10408 a10410 ⊢) <;> omega))⟩
                            · refine sw_sh (ci_sh cs11 t_p0 rfl) ?_
                              refine sw_on (sX9_put cs11 t_p0 (by (try simp only [zp, zo, zq] at u5318 xq2 h5319 xq12 h5332 xq14 a5352 u5353 h5354 h5355 h8082 h9318 h9573 a9828 h9829 h10074 h10319 w10320 w10321 r10322 r10323 r10324 h10325 h10345 h10346 h10366 ⊢) <;> (try simp only [zz, Int32.reduceToInt, ne_eq] at u5318 xq2 h5319 xq12 h5332 xq14 a5352 u5353 h5354 h5355 h8082 h9318 h9573 a9828 h9829 h10074 h10319 w10320 w10321 r10322 r10323 r10324 h10325 h10345 h10346 h10366 ⊢) <;> (try simp (disch := omega) only [zb] at u5318 xq2 h5319 xq12 h5332 xq14 a5352 u5353 h5354 h5355 h8082 h9318 h9573 a9828 h9829 h10074 h10319 w10320 w10321 r10322 r10323 r10324 h10325 h10345 h10346 h10366 ⊢) <;> first | omega | ((try simp (disch := omega) only [zb] at u5318 xq2 h5319 xq12 h5332 xq14 a5352 u5353 h5354 h5355 h8082 h9318 h9573 a9828 h9829 h10074 h10319 w10320 w10321 r10322 r10323 r10324 h10325 h10345 h10346 h10366 ⊢) <;> omega)) ) ?_
                              intro q30 hqq30
                              obtain ⟨cq30, gq30, xq30⟩ := hqq30
                              have fq30 := fr_trans fs11 gq30 rfl
                              unfold fX9_pair_264
                              refine sw_ite (fun h10411 => ?_) (fun h10411 => ?_)
                              · have w10412 := (gq30.2.2 _ _ t_p0 0 rfl).1
                                have w10413 : mm_I s11 p0 0 = mm_I q2.2 p0 0 := by rw [← es11]; exact rd_k t_p0 tq5 (by decide)
                                have w10415 := rdA_fr (k := 9) (j := 1) gq30 cs11 t_p0 (κ' := 59) rfl rfl rfl
                                have w10417 : rdA s11 p0 9 1 = mm_I s11 q17 ((1 : Int32)).toNatClampNeg := rdA_eq eq17
                                have w10416 : rdA s11 p0 9 1 = rdA q2.2 p0 9 1 := by rw [← es11]; exact rdA_k cq2 t_p0 (κ' := 59) rfl tq5 (by decide)
                                have w10418 := rdA_fr (k := 9) (j := 1) gq2 c0 t_p0 (κ' := 59) rfl rfl rfl
                                have w10420 := rdA_fr (k := 10) (j := 1) gq30 cs11 t_p0 (κ' := 60) rfl rfl rfl
                                have w10421 : rdA s11 p0 10 1 = rdA q2.2 p0 10 1 := by rw [← es11]; exact rdA_j (by decide)
                                have w10423 : rdA q2.2 p0 10 1 = mm_I q2.2 q5 ((1 : Int32)).toNatClampNeg := rdA_eq eq5
                                have w10422 := rdA_fr (k := 10) (j := 1) gq2 c0 t_p0 (κ' := 60) rfl rfl rfl
                                have w10425 := rdA_fr (k := 10) (j := 0) gq30 cs11 t_p0 (κ' := 60) rfl rfl rfl
                                have w10426 : rdA s11 p0 10 0 = -1 := by rw [← es11]; exact rdA_self eq5
                                have w10427 := rdA_fr (k := 9) (j := 0) gq30 cs11 t_p0 (κ' := 59) rfl rfl rfl
                                have w10429 : rdA s11 p0 9 0 = mm_I s11 q17 ((0 : Int32)).toNatClampNeg := rdA_eq eq17
                                have w10428 : rdA s11 p0 9 0 = rdA q2.2 p0 9 0 := by rw [← es11]; exact rdA_k cq2 t_p0 (κ' := 59) rfl tq5 (by decide)
                                have w10430 := rdA_fr (k := 9) (j := 0) gq2 c0 t_p0 (κ' := 59) rfl rfl rfl
                                have w10434 : rdA q2.2 p0 10 0 = mm_I q2.2 q5 ((0 : Int32)).toNatClampNeg := rdA_eq eq5
                                have w10433 := rdA_fr (k := 10) (j := 0) gq2 c0 t_p0 (κ' := 60) rfl rfl rfl
                                have a10435 := zi_and p2 8 (by decide)
                                exact sw_some ⟨cq30, fq30, (by (try simp only [zp, zo, zq] at u5318 xq2 h5319 xq12 h5332 xq14 a5352 u5353 h5354 h5355 h8082 h9318 h9573 a9828 h9829 h10074 h10319 w10320 w10321 r10322 r10323 r10324 h10325 h10345 h10346 h10366 h10411 w10412 w10413 w10415 w10417 w10416 w10418 w10420 w10421 w10423 w10422 w10425 w10426 w10427 w10429 w10428 w10430 w10434 w10433 a10435 ⊢) <;> (try simp only [zz, Int32.reduceToInt, ne_eq] at u5318 xq2 h5319 xq12 h5332 xq14 a5352 u5353 h5354 h5355 h8082 h9318 h9573 a9828 h9829 h10074 h10319 w10320 w10321 r10322 r10323 r10324 h10325 h10345 h10346 h10366 h10411 w10412 w10413 w10415 w10417 w10416 w10418 w10420 w10421 w10423 w10422 w10425 w10426 w10427 w10429 w10428 w10430 w10434 w10433 a10435 ⊢) <;> (try simp (disch := omega) only [zb] at u5318 xq2 h5319 xq12 h5332 xq14 a5352 u5353 h5354 h5355 h8082 h9318 h9573 a9828 h9829 h10074 h10319 w10320 w10321 r10322 r10323 r10324 h10325 h10345 h10346 h10366 h10411 w10412 w10413 w10415 w10417 w10416 w10418 w10420 w10421 w10423 w10422 w10425 w10426 w10427 w10429 w10428 w10430 w10434 w10433 a10435 ⊢) <;> first | omega | ((try simp (disch := omega) only [zb] at u5318 xq2 h5319 xq12 h5332 xq14 a5352 u5353 h5354 h5355 h8082 h9318 h9573 a9828 h9829 h10074 h10319 w10320 w10321 r10322 r10323 r10324 h10325 h10345 h10346 h10366 h10411 w10412 w10413 w10415 w10417 w10416 w10418 w10420 w10421 w10423 w10422 w10425 w10426 w10427 w10429 w10428 w10430 w10434 w10433 a10435 ⊢) <;> omega))⟩
                              · refine sw_sh (ci_sh cq30 t_p0 rfl) ?_
                                refine sw_on (sX9_put cq30 t_p0 (by (try simp only [zp, zo, zq] at u5318 xq2 h5319 xq12 h5332 xq14 a5352 u5353 h5354 h5355 h8082 h9318 h9573 a9828 h9829 h10074 h10319 w10320 w10321 r10322 r10323 r10324 h10325 h10345 h10346 h10366 h10411 ⊢) <;> (try simp only [zz, Int32.reduceToInt, ne_eq] at u5318 xq2 h5319 xq12 h5332 xq14 a5352 u5353 h5354 h5355 h8082 h9318 h9573 a9828 h9829 h10074 h10319 w10320 w10321 r10322 r10323 r10324 h10325 h10345 h10346 h10366 h10411 ⊢) <;> (try simp (disch := omega) only [zb] at u5318 xq2 h5319 xq12 h5332 xq14 a5352 u5353 h5354 h5355 h8082 h9318 h9573 a9828 h9829 h10074 h10319 w10320 w10321 r10322 r10323 r10324 h10325 h10345 h10346 h10366 h10411 ⊢) <;> first | omega | ((try simp (disch := omega) only [zb] at u5318 xq2 h5319 xq12 h5332 xq14 a5352 u5353 h5354 h5355 h8082 h9318 h9573 a9828 h9829 h10074 h10319 w10320 w10321 r10322 r10323 r10324 h10325 h10345 h10346 h10366 h10411 ⊢) <;> omega)) ) ?_
                                intro q28 hqq28
                                obtain ⟨cq28, gq28, xq28⟩ := hqq28
                                have fq28 := fr_trans fq30 gq28 rfl
                                have w10436 := (gq28.2.2 _ _ t_p0 0 rfl).1
                                have w10437 := (gq30.2.2 _ _ t_p0 0 rfl).1
                                have w10438 : mm_I s11 p0 0 = mm_I q2.2 p0 0 := by rw [← es11]; exact rd_k t_p0 tq5 (by decide)
                                have w10440 := rdA_fr (k := 9) (j := 1) gq28 cq30 t_p0 (κ' := 59) rfl rfl rfl
                                have w10441 := rdA_fr (k := 9) (j := 1) gq30 cs11 t_p0 (κ' := 59) rfl rfl rfl
                                have w10443 : rdA s11 p0 9 1 = mm_I s11 q17 ((1 : Int32)).toNatClampNeg := rdA_eq eq17
                                have w10442 : rdA s11 p0 9 1 = rdA q2.2 p0 9 1 := by rw [← es11]; exact rdA_k cq2 t_p0 (κ' := 59) rfl tq5 (by decide)
                                have w10444 := rdA_fr (k := 9) (j := 1) gq2 c0 t_p0 (κ' := 59) rfl rfl rfl
                                have w10446 := rdA_fr (k := 10) (j := 1) gq28 cq30 t_p0 (κ' := 60) rfl rfl rfl
                                have w10447 := rdA_fr (k := 10) (j := 1) gq30 cs11 t_p0 (κ' := 60) rfl rfl rfl
                                have w10448 : rdA s11 p0 10 1 = rdA q2.2 p0 10 1 := by rw [← es11]; exact rdA_j (by decide)
                                have w10450 : rdA q2.2 p0 10 1 = mm_I q2.2 q5 ((1 : Int32)).toNatClampNeg := rdA_eq eq5
                                have w10449 := rdA_fr (k := 10) (j := 1) gq2 c0 t_p0 (κ' := 60) rfl rfl rfl
                                have w10452 := rdA_fr (k := 10) (j := 0) gq28 cq30 t_p0 (κ' := 60) rfl rfl rfl
                                have w10453 := rdA_fr (k := 10) (j := 0) gq30 cs11 t_p0 (κ' := 60) rfl rfl rfl
                                have w10454 : rdA s11 p0 10 0 = -1 := by rw [← es11]; exact rdA_self eq5
                                have w10455 := rdA_fr (k := 9) (j := 0) gq28 cq30 t_p0 (κ' := 59) rfl rfl rfl
                                have w10456 := rdA_fr (k := 9) (j := 0) gq30 cs11 t_p0 (κ' := 59) rfl rfl rfl
                                have w10458 : rdA s11 p0 9 0 = mm_I s11 q17 ((0 : Int32)).toNatClampNeg := rdA_eq eq17
                                have w10457 : rdA s11 p0 9 0 = rdA q2.2 p0 9 0 := by rw [← es11]; exact rdA_k cq2 t_p0 (κ' := 59) rfl tq5 (by decide)
                                have w10459 := rdA_fr (k := 9) (j := 0) gq2 c0 t_p0 (κ' := 59) rfl rfl rfl
                                have w10463 : rdA q2.2 p0 10 0 = mm_I q2.2 q5 ((0 : Int32)).toNatClampNeg := rdA_eq eq5
                                have w10462 := rdA_fr (k := 10) (j := 0) gq2 c0 t_p0 (κ' := 60) rfl rfl rfl
                                have a10464 := zi_and p2 8 (by decide)
                                exact sw_some ⟨cq28, fq28, (by (try simp only [zp, zo, zq] at u5318 xq2 h5319 xq12 h5332 xq14 a5352 u5353 h5354 h5355 h8082 h9318 h9573 a9828 h9829 h10074 h10319 w10320 w10321 r10322 r10323 r10324 h10325 h10345 h10346 h10366 h10411 w10436 w10437 w10438 w10440 w10441 w10443 w10442 w10444 w10446 w10447 w10448 w10450 w10449 w10452 w10453 w10454 w10455 w10456 w10458 w10457 w10459 w10463 w10462 a10464 ⊢) <;> (try simp only [zz, Int32.reduceToInt, ne_eq] at u5318 xq2 h5319 xq12 h5332 xq14 a5352 u5353 h5354 h5355 h8082 h9318 h9573 a9828 h9829 h10074 h10319 w10320 w10321 r10322 r10323 r10324 h10325 h10345 h10346 h10366 h10411 w10436 w10437 w10438 w10440 w10441 w10443 w10442 w10444 w10446 w10447 w10448 w10450 w10449 w10452 w10453 w10454 w10455 w10456 w10458 w10457 w10459 w10463 w10462 a10464 ⊢) <;> (try simp (disch := omega) only [zb] at u5318 xq2 h5319 xq12 h5332 xq14 a5352 u5353 h5354 h5355 h8082 h9318 h9573 a9828 h9829 h10074 h10319 w10320 w10321 r10322 r10323 r10324 h10325 h10345 h10346 h10366 h10411 w10436 w10437 w10438 w10440 w10441 w10443 w10442 w10444 w10446 w10447 w10448 w10450 w10449 w10452 w10453 w10454 w10455 w10456 w10458 w10457 w10459 w10463 w10462 a10464 ⊢) <;> first | omega | ((try simp (disch := omega) only [zb] at u5318 xq2 h5319 xq12 h5332 xq14 a5352 u5353 h5354 h5355 h8082 h9318 h9573 a9828 h9829 h10074 h10319 w10320 w10321 r10322 r10323 r10324 h10325 h10345 h10346 h10366 h10411 w10436 w10437 w10438 w10440 w10441 w10443 w10442 w10444 w10446 w10447 w10448 w10450 w10449 w10452 w10453 w10454 w10455 w10456 w10458 w10457 w10459 w10463 w10462 a10464 ⊢) <;> omega))⟩
                        · unfold fX9_pair_250
                          refine sw_ite (fun h10465 => ?_) (fun h10465 => ?_)
                          · unfold fX9_pair_264
                            refine sw_ite (fun h10466 => ?_) (fun h10466 => ?_)
                            · have w10467 : mm_I s11 p0 0 = mm_I q2.2 p0 0 := by rw [← es11]; exact rd_k t_p0 tq5 (by decide)
                              have w10470 : rdA s11 p0 9 1 = mm_I s11 q17 ((1 : Int32)).toNatClampNeg := rdA_eq eq17
                              have w10469 : rdA s11 p0 9 1 = rdA q2.2 p0 9 1 := by rw [← es11]; exact rdA_k cq2 t_p0 (κ' := 59) rfl tq5 (by decide)
                              have w10471 := rdA_fr (k := 9) (j := 1) gq2 c0 t_p0 (κ' := 59) rfl rfl rfl
                              have w10473 : rdA s11 p0 10 1 = rdA q2.2 p0 10 1 := by rw [← es11]; exact rdA_j (by decide)
                              have w10475 : rdA q2.2 p0 10 1 = mm_I q2.2 q5 ((1 : Int32)).toNatClampNeg := rdA_eq eq5
                              have w10474 := rdA_fr (k := 10) (j := 1) gq2 c0 t_p0 (κ' := 60) rfl rfl rfl
                              have w10477 : rdA s11 p0 10 0 = -1 := by rw [← es11]; exact rdA_self eq5
                              have w10479 : rdA s11 p0 9 0 = mm_I s11 q17 ((0 : Int32)).toNatClampNeg := rdA_eq eq17
                              have w10478 : rdA s11 p0 9 0 = rdA q2.2 p0 9 0 := by rw [← es11]; exact rdA_k cq2 t_p0 (κ' := 59) rfl tq5 (by decide)
                              have w10480 := rdA_fr (k := 9) (j := 0) gq2 c0 t_p0 (κ' := 59) rfl rfl rfl
                              have w10484 : rdA q2.2 p0 10 0 = mm_I q2.2 q5 ((0 : Int32)).toNatClampNeg := rdA_eq eq5
                              have w10483 := rdA_fr (k := 10) (j := 0) gq2 c0 t_p0 (κ' := 60) rfl rfl rfl
                              have a10485 := zi_and p2 8 (by decide)
                              exact sw_some ⟨cs11, fs11, (by (try simp only [zp, zo, zq] at u5318 xq2 h5319 xq12 h5332 xq14 a5352 u5353 h5354 h5355 h8082 h9318 h9573 a9828 h9829 h10074 h10319 w10320 w10321 r10322 r10323 r10324 h10325 h10345 h10465 h10466 w10467 w10470 w10469 w10471 w10473 w10475 w10474 w10477 w10479 w10478 w10480 w10484 w10483 a10485 ⊢) <;> (try simp only [zz, Int32.reduceToInt, ne_eq] at u5318 xq2 h5319 xq12 h5332 xq14 a5352 u5353 h5354 h5355 h8082 h9318 h9573 a9828 h9829 h10074 h10319 w10320 w10321 r10322 r10323 r10324 h10325 h10345 h10465 h10466 w10467 w10470 w10469 w10471 w10473 w10475 w10474 w10477 w10479 w10478 w10480 w10484 w10483 a10485 ⊢) <;> (try simp (disch := omega) only [zb] at u5318 xq2 h5319 xq12 h5332 xq14 a5352 u5353 h5354 h5355 h8082 h9318 h9573 a9828 h9829 h10074 h10319 w10320 w10321 r10322 r10323 r10324 h10325 h10345 h10465 h10466 w10467 w10470 w10469 w10471 w10473 w10475 w10474 w10477 w10479 w10478 w10480 w10484 w10483 a10485 ⊢) <;> first | omega | ((try simp (disch := omega) only [zb] at u5318 xq2 h5319 xq12 h5332 xq14 a5352 u5353 h5354 h5355 h8082 h9318 h9573 a9828 h9829 h10074 h10319 w10320 w10321 r10322 r10323 r10324 h10325 h10345 h10465 h10466 w10467 w10470 w10469 w10471 w10473 w10475 w10474 w10477 w10479 w10478 w10480 w10484 w10483 a10485 ⊢) <;> omega))⟩
                            · refine sw_sh (ci_sh cs11 t_p0 rfl) ?_
                              refine sw_on (sX9_put cs11 t_p0 (by (try simp only [zp, zo, zq] at u5318 xq2 h5319 xq12 h5332 xq14 a5352 u5353 h5354 h5355 h8082 h9318 h9573 a9828 h9829 h10074 h10319 w10320 w10321 r10322 r10323 r10324 h10325 h10345 h10465 h10466 ⊢) <;> (try simp only [zz, Int32.reduceToInt, ne_eq] at u5318 xq2 h5319 xq12 h5332 xq14 a5352 u5353 h5354 h5355 h8082 h9318 h9573 a9828 h9829 h10074 h10319 w10320 w10321 r10322 r10323 r10324 h10325 h10345 h10465 h10466 ⊢) <;> (try simp (disch := omega) only [zb] at u5318 xq2 h5319 xq12 h5332 xq14 a5352 u5353 h5354 h5355 h8082 h9318 h9573 a9828 h9829 h10074 h10319 w10320 w10321 r10322 r10323 r10324 h10325 h10345 h10465 h10466 ⊢) <;> first | omega | ((try simp (disch := omega) only [zb] at u5318 xq2 h5319 xq12 h5332 xq14 a5352 u5353 h5354 h5355 h8082 h9318 h9573 a9828 h9829 h10074 h10319 w10320 w10321 r10322 r10323 r10324 h10325 h10345 h10465 h10466 ⊢) <;> omega)) ) ?_
                              intro q28 hqq28
                              obtain ⟨cq28, gq28, xq28⟩ := hqq28
                              have fq28 := fr_trans fs11 gq28 rfl
                              have w10486 := (gq28.2.2 _ _ t_p0 0 rfl).1
                              have w10487 : mm_I s11 p0 0 = mm_I q2.2 p0 0 := by rw [← es11]; exact rd_k t_p0 tq5 (by decide)
                              have w10489 := rdA_fr (k := 9) (j := 1) gq28 cs11 t_p0 (κ' := 59) rfl rfl rfl
                              have w10491 : rdA s11 p0 9 1 = mm_I s11 q17 ((1 : Int32)).toNatClampNeg := rdA_eq eq17
                              have w10490 : rdA s11 p0 9 1 = rdA q2.2 p0 9 1 := by rw [← es11]; exact rdA_k cq2 t_p0 (κ' := 59) rfl tq5 (by decide)
                              have w10492 := rdA_fr (k := 9) (j := 1) gq2 c0 t_p0 (κ' := 59) rfl rfl rfl
                              have w10494 := rdA_fr (k := 10) (j := 1) gq28 cs11 t_p0 (κ' := 60) rfl rfl rfl
                              have w10495 : rdA s11 p0 10 1 = rdA q2.2 p0 10 1 := by rw [← es11]; exact rdA_j (by decide)
                              have w10497 : rdA q2.2 p0 10 1 = mm_I q2.2 q5 ((1 : Int32)).toNatClampNeg := rdA_eq eq5
                              have w10496 := rdA_fr (k := 10) (j := 1) gq2 c0 t_p0 (κ' := 60) rfl rfl rfl
                              have w10499 := rdA_fr (k := 10) (j := 0) gq28 cs11 t_p0 (κ' := 60) rfl rfl rfl
                              have w10500 : rdA s11 p0 10 0 = -1 := by rw [← es11]; exact rdA_self eq5
                              have w10501 := rdA_fr (k := 9) (j := 0) gq28 cs11 t_p0 (κ' := 59) rfl rfl rfl
                              have w10503 : rdA s11 p0 9 0 = mm_I s11 q17 ((0 : Int32)).toNatClampNeg := rdA_eq eq17
                              have w10502 : rdA s11 p0 9 0 = rdA q2.2 p0 9 0 := by rw [← es11]; exact rdA_k cq2 t_p0 (κ' := 59) rfl tq5 (by decide)
                              have w10504 := rdA_fr (k := 9) (j := 0) gq2 c0 t_p0 (κ' := 59) rfl rfl rfl
                              have w10508 : rdA q2.2 p0 10 0 = mm_I q2.2 q5 ((0 : Int32)).toNatClampNeg := rdA_eq eq5
                              have w10507 := rdA_fr (k := 10) (j := 0) gq2 c0 t_p0 (κ' := 60) rfl rfl rfl
                              have a10509 := zi_and p2 8 (by decide)
                              exact sw_some ⟨cq28, fq28, (by (try simp only [zp, zo, zq] at u5318 xq2 h5319 xq12 h5332 xq14 a5352 u5353 h5354 h5355 h8082 h9318 h9573 a9828 h9829 h10074 h10319 w10320 w10321 r10322 r10323 r10324 h10325 h10345 h10465 h10466 w10486 w10487 w10489 w10491 w10490 w10492 w10494 w10495 w10497 w10496 w10499 w10500 w10501 w10503 w10502 w10504 w10508 w10507 a10509 ⊢) <;> (try simp only [zz, Int32.reduceToInt, ne_eq] at u5318 xq2 h5319 xq12 h5332 xq14 a5352 u5353 h5354 h5355 h8082 h9318 h9573 a9828 h9829 h10074 h10319 w10320 w10321 r10322 r10323 r10324 h10325 h10345 h10465 h10466 w10486 w10487 w10489 w10491 w10490 w10492 w10494 w10495 w10497 w10496 w10499 w10500 w10501 w10503 w10502 w10504 w10508 w10507 a10509 ⊢) <;> (try simp (disch := omega) only [zb] at u5318 xq2 h5319 xq12 h5332 xq14 a5352 u5353 h5354 h5355 h8082 h9318 h9573 a9828 h9829 h10074 h10319 w10320 w10321 r10322 r10323 r10324 h10325 h10345 h10465 h10466 w10486 w10487 w10489 w10491 w10490 w10492 w10494 w10495 w10497 w10496 w10499 w10500 w10501 w10503 w10502 w10504 w10508 w10507 a10509 ⊢) <;> first | omega | ((try simp (disch := omega) only [zb] at u5318 xq2 h5319 xq12 h5332 xq14 a5352 u5353 h5354 h5355 h8082 h9318 h9573 a9828 h9829 h10074 h10319 w10320 w10321 r10322 r10323 r10324 h10325 h10345 h10465 h10466 w10486 w10487 w10489 w10491 w10490 w10492 w10494 w10495 w10497 w10496 w10499 w10500 w10501 w10503 w10502 w10504 w10508 w10507 a10509 ⊢) <;> omega))⟩
                          · refine sw_sh (ci_sh cs11 t_p0 rfl) ?_
                            refine sw_on (sX9_put cs11 t_p0 (by (try simp only [zp, zo, zq] at u5318 xq2 h5319 xq12 h5332 xq14 a5352 u5353 h5354 h5355 h8082 h9318 h9573 a9828 h9829 h10074 h10319 w10320 w10321 r10322 r10323 r10324 h10325 h10345 h10465 ⊢) <;> (try simp only [zz, Int32.reduceToInt, ne_eq] at u5318 xq2 h5319 xq12 h5332 xq14 a5352 u5353 h5354 h5355 h8082 h9318 h9573 a9828 h9829 h10074 h10319 w10320 w10321 r10322 r10323 r10324 h10325 h10345 h10465 ⊢) <;> (try simp (disch := omega) only [zb] at u5318 xq2 h5319 xq12 h5332 xq14 a5352 u5353 h5354 h5355 h8082 h9318 h9573 a9828 h9829 h10074 h10319 w10320 w10321 r10322 r10323 r10324 h10325 h10345 h10465 ⊢) <;> first | omega | ((try simp (disch := omega) only [zb] at u5318 xq2 h5319 xq12 h5332 xq14 a5352 u5353 h5354 h5355 h8082 h9318 h9573 a9828 h9829 h10074 h10319 w10320 w10321 r10322 r10323 r10324 h10325 h10345 h10465 ⊢) <;> omega)) ) ?_
                            intro q30 hqq30
                            obtain ⟨cq30, gq30, xq30⟩ := hqq30
                            have fq30 := fr_trans fs11 gq30 rfl
                            unfold fX9_pair_264
                            refine sw_ite (fun h10510 => ?_) (fun h10510 => ?_)
                            · have w10511 := (gq30.2.2 _ _ t_p0 0 rfl).1
                              have w10512 : mm_I s11 p0 0 = mm_I q2.2 p0 0 := by rw [← es11]; exact rd_k t_p0 tq5 (by decide)
                              have w10514 := rdA_fr (k := 9) (j := 1) gq30 cs11 t_p0 (κ' := 59) rfl rfl rfl
                              have w10516 : rdA s11 p0 9 1 = mm_I s11 q17 ((1 : Int32)).toNatClampNeg := rdA_eq eq17
                              have w10515 : rdA s11 p0 9 1 = rdA q2.2 p0 9 1 := by rw [← es11]; exact rdA_k cq2 t_p0 (κ' := 59) rfl tq5 (by decide)
                              have w10517 := rdA_fr (k := 9) (j := 1) gq2 c0 t_p0 (κ' := 59) rfl rfl rfl
                              have w10519 := rdA_fr (k := 10) (j := 1) gq30 cs11 t_p0 (κ' := 60) rfl rfl rfl
                              have w10520 : rdA s11 p0 10 1 = rdA q2.2 p0 10 1 := by rw [← es11]; exact rdA_j (by decide)
                              have w10522 : rdA q2.2 p0 10 1 = mm_I q2.2 q5 ((1 : Int32)).toNatClampNeg := rdA_eq eq5
                              have w10521 := rdA_fr (k := 10) (j := 1) gq2 c0 t_p0 (κ' := 60) rfl rfl rfl
                              have w10524 := rdA_fr (k := 10) (j := 0) gq30 cs11 t_p0 (κ' := 60) rfl rfl rfl
                              have w10525 : rdA s11 p0 10 0 = -1 := by rw [← es11]; exact rdA_self eq5
                              have w10526 := rdA_fr (k := 9) (j := 0) gq30 cs11 t_p0 (κ' := 59) rfl rfl rfl
                              have w10528 : rdA s11 p0 9 0 = mm_I s11 q17 ((0 : Int32)).toNatClampNeg := rdA_eq eq17
                              have w10527 : rdA s11 p0 9 0 = rdA q2.2 p0 9 0 := by rw [← es11]; exact rdA_k cq2 t_p0 (κ' := 59) rfl tq5 (by decide)
                              have w10529 := rdA_fr (k := 9) (j := 0) gq2 c0 t_p0 (κ' := 59) rfl rfl rfl
                              have w10533 : rdA q2.2 p0 10 0 = mm_I q2.2 q5 ((0 : Int32)).toNatClampNeg := rdA_eq eq5
                              have w10532 := rdA_fr (k := 10) (j := 0) gq2 c0 t_p0 (κ' := 60) rfl rfl rfl
                              have a10534 := zi_and p2 8 (by decide)
                              exact sw_some ⟨cq30, fq30, (by (try simp only [zp, zo, zq] at u5318 xq2 h5319 xq12 h5332 xq14 a5352 u5353 h5354 h5355 h8082 h9318 h9573 a9828 h9829 h10074 h10319 w10320 w10321 r10322 r10323 r10324 h10325 h10345 h10465 h10510 w10511 w10512 w10514 w10516 w10515 w10517 w10519 w10520 w10522 w10521 w10524 w10525 w10526 w10528 w10527 w10529 w10533 w10532 a10534 ⊢) <;> (try simp only [zz, Int32.reduceToInt, ne_eq] at u5318 xq2 h5319 xq12 h5332 xq14 a5352 u5353 h5354 h5355 h8082 h9318 h9573 a9828 h9829 h10074 h10319 w10320 w10321 r10322 r10323 r10324 h10325 h10345 h10465 h10510 w10511 w10512 w10514 w10516 w10515 w10517 w10519 w10520 w10522 w10521 w10524 w10525 w10526 w10528 w10527 w10529 w10533 w10532 a10534 ⊢) <;> (try simp (disch := omega) only [zb] at u5318 xq2 h5319 xq12 h5332 xq14 a5352 u5353 h5354 h5355 h8082 h9318 h9573 a9828 h9829 h10074 h10319 w10320 w10321 r10322 r10323 r10324 h10325 h10345 h10465 h10510 w10511 w10512 w10514 w10516 w10515 w10517 w10519 w10520 w10522 w10521 w10524 w10525 w10526 w10528 w10527 w10529 w10533 w10532 a10534 ⊢) <;> first | omega | ((try simp (disch := omega) only [zb] at u5318 xq2 h5319 xq12 h5332 xq14 a5352 u5353 h5354 h5355 h8082 h9318 h9573 a9828 h9829 h10074 h10319 w10320 w10321 r10322 r10323 r10324 h10325 h10345 h10465 h10510 w10511 w10512 w10514 w10516 w10515 w10517 w10519 w10520 w10522 w10521 w10524 w10525 w10526 w10528 w10527 w10529 w10533 w10532 a10534 ⊢) <;> omega))⟩
                            · refine sw_sh (ci_sh cq30 t_p0 rfl) ?_
                              refine sw_on (sX9_put cq30 t_p0 (by (try simp only [zp, zo, zq] at u5318 xq2 h5319 xq12 h5332 xq14 a5352 u5353 h5354 h5355 h8082 h9318 h9573 a9828 h9829 h10074 h10319 w10320 w10321 r10322 r10323 r10324 h10325 h10345 h10465 h10510 ⊢) <;> (try simp only [zz, Int32.reduceToInt, ne_eq] at u5318 xq2 h5319 xq12 h5332 xq14 a5352 u5353 h5354 h5355 h8082 h9318 h9573 a9828 h9829 h10074 h10319 w10320 w10321 r10322 r10323 r10324 h10325 h10345 h10465 h10510 ⊢) <;> (try simp (disch := omega) only [zb] at u5318 xq2 h5319 xq12 h5332 xq14 a5352 u5353 h5354 h5355 h8082 h9318 h9573 a9828 h9829 h10074 h10319 w10320 w10321 r10322 r10323 r10324 h10325 h10345 h10465 h10510 ⊢) <;> first | omega | ((try simp (disch := omega) only [zb] at u5318 xq2 h5319 xq12 h5332 xq14 a5352 u5353 h5354 h5355 h8082 h9318 h9573 a9828 h9829 h10074 h10319 w10320 w10321 r10322 r10323 r10324 h10325 h10345 h10465 h10510 ⊢) <;> omega)) ) ?_
                              intro q28 hqq28
                              obtain ⟨cq28, gq28, xq28⟩ := hqq28
                              have fq28 := fr_trans fq30 gq28 rfl
                              have w10535 := (gq28.2.2 _ _ t_p0 0 rfl).1
                              have w10536 := (gq30.2.2 _ _ t_p0 0 rfl).1
                              have w10537 : mm_I s11 p0 0 = mm_I q2.2 p0 0 := by rw [← es11]; exact rd_k t_p0 tq5 (by decide)
                              have w10539 := rdA_fr (k := 9) (j := 1) gq28 cq30 t_p0 (κ' := 59) rfl rfl rfl
                              have w10540 := rdA_fr (k := 9) (j := 1) gq30 cs11 t_p0 (κ' := 59) rfl rfl rfl
                              have w10542 : rdA s11 p0 9 1 = mm_I s11 q17 ((1 : Int32)).toNatClampNeg := rdA_eq eq17
                              have w10541 : rdA s11 p0 9 1 = rdA q2.2 p0 9 1 := by rw [← es11]; exact rdA_k cq2 t_p0 (κ' := 59) rfl tq5 (by decide)
                              have w10543 := rdA_fr (k := 9) (j := 1) gq2 c0 t_p0 (κ' := 59) rfl rfl rfl
                              have w10545 := rdA_fr (k := 10) (j := 1) gq28 cq30 t_p0 (κ' := 60) rfl rfl rfl
                              have w10546 := rdA_fr (k := 10) (j := 1) gq30 cs11 t_p0 (κ' := 60) rfl rfl rfl
                              have w10547 : rdA s11 p0 10 1 = rdA q2.2 p0 10 1 := by rw [← es11]; exact rdA_j (by decide)
                              have w10549 : rdA q2.2 p0 10 1 = mm_I q2.2 q5 ((1 : Int32)).toNatClampNeg := rdA_eq eq5
                              have w10548 := rdA_fr (k := 10) (j := 1) gq2 c0 t_p0 (κ' := 60) rfl rfl rfl
                              have w10551 := rdA_fr (k := 10) (j := 0) gq28 cq30 t_p0 (κ' := 60) rfl rfl rfl
                              have w10552 := rdA_fr (k := 10) (j := 0) gq30 cs11 t_p0 (κ' := 60) rfl rfl rfl
                              have w10553 : rdA s11 p0 10 0 = -1 := by rw [← es11]; exact rdA_self eq5
                              have w10554 := rdA_fr (k := 9) (j := 0) gq28 cq30 t_p0 (κ' := 59) rfl rfl rfl
                              have w10555 := rdA_fr (k := 9) (j := 0) gq30 cs11 t_p0 (κ' := 59) rfl rfl rfl
                              have w10557 : rdA s11 p0 9 0 = mm_I s11 q17 ((0 : Int32)).toNatClampNeg := rdA_eq eq17
                              have w10556 : rdA s11 p0 9 0 = rdA q2.2 p0 9 0 := by rw [← es11]; exact rdA_k cq2 t_p0 (κ' := 59) rfl tq5 (by decide)
                              have w10558 := rdA_fr (k := 9) (j := 0) gq2 c0 t_p0 (κ' := 59) rfl rfl rfl
                              have w10562 : rdA q2.2 p0 10 0 = mm_I q2.2 q5 ((0 : Int32)).toNatClampNeg := rdA_eq eq5
                              have w10561 := rdA_fr (k := 10) (j := 0) gq2 c0 t_p0 (κ' := 60) rfl rfl rfl
                              have a10563 := zi_and p2 8 (by decide)
                              exact sw_some ⟨cq28, fq28, (by (try simp only [zp, zo, zq] at u5318 xq2 h5319 xq12 h5332 xq14 a5352 u5353 h5354 h5355 h8082 h9318 h9573 a9828 h9829 h10074 h10319 w10320 w10321 r10322 r10323 r10324 h10325 h10345 h10465 h10510 w10535 w10536 w10537 w10539 w10540 w10542 w10541 w10543 w10545 w10546 w10547 w10549 w10548 w10551 w10552 w10553 w10554 w10555 w10557 w10556 w10558 w10562 w10561 a10563 ⊢) <;> (try simp only [zz, Int32.reduceToInt, ne_eq] at u5318 xq2 h5319 xq12 h5332 xq14 a5352 u5353 h5354 h5355 h8082 h9318 h9573 a9828 h9829 h10074 h10319 w10320 w10321 r10322 r10323 r10324 h10325 h10345 h10465 h10510 w10535 w10536 w10537 w10539 w10540 w10542 w10541 w10543 w10545 w10546 w10547 w10549 w10548 w10551 w10552 w10553 w10554 w10555 w10557 w10556 w10558 w10562 w10561 a10563 ⊢) <;> (try simp (disch := omega) only [zb] at u5318 xq2 h5319 xq12 h5332 xq14 a5352 u5353 h5354 h5355 h8082 h9318 h9573 a9828 h9829 h10074 h10319 w10320 w10321 r10322 r10323 r10324 h10325 h10345 h10465 h10510 w10535 w10536 w10537 w10539 w10540 w10542 w10541 w10543 w10545 w10546 w10547 w10549 w10548 w10551 w10552 w10553 w10554 w10555 w10557 w10556 w10558 w10562 w10561 a10563 ⊢) <;> first | omega | ((try simp (disch := omega) only [zb] at u5318 xq2 h5319 xq12 h5332 xq14 a5352 u5353 h5354 h5355 h8082 h9318 h9573 a9828 h9829 h10074 h10319 w10320 w10321 r10322 r10323 r10324 h10325 h10345 h10465 h10510 w10535 w10536 w10537 w10539 w10540 w10542 w10541 w10543 w10545 w10546 w10547 w10549 w10548 w10551 w10552 w10553 w10554 w10555 w10557 w10556 w10558 w10562 w10561 a10563 ⊢) <;> omega))⟩
                    · unfold fX9_pair_227
                      unfold fX9_pair_228
                      have w10564 : mm_I s11 q17 ((0 : Int32).toNatClampNeg) = mm_I q2.2 q17 ((0 : Int32).toNatClampNeg) := by rw [← es11]; exact rd_k tq17 tq5 (by decide)
                      have w10565 := (gq2.2.2 _ _ tq17 ((0 : Int32).toNatClampNeg) rfl).1
                      have r10566 := ci_rg c0 tq17 ((0 : Int32).toNatClampNeg) (lo := (-1)) (hi := 3) rfl
                      have r10567 := ci_rg cq2 tq17 ((0 : Int32).toNatClampNeg) (lo := (-1)) (hi := 3) rfl
                      have r10568 := ci_rg cs11 tq17 ((0 : Int32).toNatClampNeg) (lo := (-1)) (hi := 3) rfl
                      refine sw_ite (fun h10569 => ?_) (fun h10569 => ?_)
                      · have w10570 : mm_I s11 p0 0 = mm_I q2.2 p0 0 := by rw [← es11]; exact rd_k t_p0 tq5 (by decide)
                        have w10573 : rdA s11 p0 9 1 = mm_I s11 q17 ((1 : Int32)).toNatClampNeg := rdA_eq eq17
                        have w10572 : rdA s11 p0 9 1 = rdA q2.2 p0 9 1 := by rw [← es11]; exact rdA_k cq2 t_p0 (κ' := 59) rfl tq5 (by decide)
                        have w10574 := rdA_fr (k := 9) (j := 1) gq2 c0 t_p0 (κ' := 59) rfl rfl rfl
                        have w10576 : rdA s11 p0 10 1 = rdA q2.2 p0 10 1 := by rw [← es11]; exact rdA_j (by decide)
                        have w10578 : rdA q2.2 p0 10 1 = mm_I q2.2 q5 ((1 : Int32)).toNatClampNeg := rdA_eq eq5
                        have w10577 := rdA_fr (k := 10) (j := 1) gq2 c0 t_p0 (κ' := 60) rfl rfl rfl
                        have w10580 : rdA s11 p0 10 0 = -1 := by rw [← es11]; exact rdA_self eq5
                        have w10582 : rdA s11 p0 9 0 = mm_I s11 q17 ((0 : Int32)).toNatClampNeg := rdA_eq eq17
                        have w10581 : rdA s11 p0 9 0 = rdA q2.2 p0 9 0 := by rw [← es11]; exact rdA_k cq2 t_p0 (κ' := 59) rfl tq5 (by decide)
                        have w10583 := rdA_fr (k := 9) (j := 0) gq2 c0 t_p0 (κ' := 59) rfl rfl rfl
                        have w10587 : rdA q2.2 p0 10 0 = mm_I q2.2 q5 ((0 : Int32)).toNatClampNeg := rdA_eq eq5
                        have w10586 := rdA_fr (k := 10) (j := 0) gq2 c0 t_p0 (κ' := 60) rfl rfl rfl
                        have a10588 := zi_and p2 8 (by decide)
                        exact sw_some ⟨cs11, fs11, (by (try simp only [zp, zo, zq] at u5318 xq2 h5319 xq12 h5332 xq14 a5352 u5353 h5354 h5355 h8082 h9318 h9573 a9828 h9829 h10074 h10319 w10564 w10565 r10566 r10567 r10568 h10569 w10570 w10573 w10572 w10574 w10576 w10578 w10577 w10580 w10582 w10581 w10583 w10587 w10586 a10588 ⊢) <;> (try simp only [zz, Int32.reduceToInt, ne_eq] at u5318 xq2 h5319 xq12 h5332 xq14 a5352 u5353 h5354 h5355 h8082 h9318 h9573 a9828 h9829 h10074 h10319 w10564 w10565 r10566 r10567 r10568 h10569 w10570 w10573 w10572 w10574 w10576 w10578 w10577 w10580 w10582 w10581 w10583 w10587 w10586 a10588 ⊢) <;> (try simp (disch := omega) only [zb] at u5318 xq2 h5319 xq12 h5332 xq14 a5352 u5353 h5354 h5355 h8082 h9318 h9573 a9828 h9829 h10074 h10319 w10564 w10565 r10566 r10567 r10568 h10569 w10570 w10573 w10572 w10574 w10576 w10578 w10577 w10580 w10582 w10581 w10583 w10587 w10586 a10588 ⊢) <;> first | omega | ((try simp (disch := omega) only [zb] at u5318 xq2 h5319 xq12 h5332 xq14 a5352 u5353 h5354 h5355 h8082 h9318 h9573 a9828 h9829 h10074 h10319 w10564 w10565 r10566 r10567 r10568 h10569 w10570 w10573 w10572 w10574 w10576 w10578 w10577 w10580 w10582 w10581 w10583 w10587 w10586 a10588 ⊢) <;> omega))⟩
                      · refine sw_ite (fun h10589 => ?_) (fun h10589 => ?_)
                        · refine sw_ite (fun h10590 => ?_) (fun h10590 => ?_)
                          · have w10591 : mm_I s11 p0 0 = mm_I q2.2 p0 0 := by rw [← es11]; exact rd_k t_p0 tq5 (by decide)
                            have w10594 : rdA s11 p0 9 1 = mm_I s11 q17 ((1 : Int32)).toNatClampNeg := rdA_eq eq17
                            have w10593 : rdA s11 p0 9 1 = rdA q2.2 p0 9 1 := by rw [← es11]; exact rdA_k cq2 t_p0 (κ' := 59) rfl tq5 (by decide)
                            have w10595 := rdA_fr (k := 9) (j := 1) gq2 c0 t_p0 (κ' := 59) rfl rfl rfl
                            have w10597 : rdA s11 p0 10 1 = rdA q2.2 p0 10 1 := by rw [← es11]; exact rdA_j (by decide)
                            have w10599 : rdA q2.2 p0 10 1 = mm_I q2.2 q5 ((1 : Int32)).toNatClampNeg := rdA_eq eq5
                            have w10598 := rdA_fr (k := 10) (j := 1) gq2 c0 t_p0 (κ' := 60) rfl rfl rfl
                            have w10601 : rdA s11 p0 10 0 = -1 := by rw [← es11]; exact rdA_self eq5
                            have w10603 : rdA s11 p0 9 0 = mm_I s11 q17 ((0 : Int32)).toNatClampNeg := rdA_eq eq17
                            have w10602 : rdA s11 p0 9 0 = rdA q2.2 p0 9 0 := by rw [← es11]; exact rdA_k cq2 t_p0 (κ' := 59) rfl tq5 (by decide)
                            have w10604 := rdA_fr (k := 9) (j := 0) gq2 c0 t_p0 (κ' := 59) rfl rfl rfl
                            have w10608 : rdA q2.2 p0 10 0 = mm_I q2.2 q5 ((0 : Int32)).toNatClampNeg := rdA_eq eq5
                            have w10607 := rdA_fr (k := 10) (j := 0) gq2 c0 t_p0 (κ' := 60) rfl rfl rfl
                            have a10609 := zi_and p2 8 (by decide)
                            exact sw_some ⟨cs11, fs11, (by (try simp only [zp, zo, zq] at u5318 xq2 h5319 xq12 h5332 xq14 a5352 u5353 h5354 h5355 h8082 h9318 h9573 a9828 h9829 h10074 h10319 w10564 w10565 r10566 r10567 r10568 h10569 h10589 h10590 w10591 w10594 w10593 w10595 w10597 w10599 w10598 w10601 w10603 w10602 w10604 w10608 w10607 a10609 ⊢) <;> (try simp only [zz, Int32.reduceToInt, ne_eq] at u5318 xq2 h5319 xq12 h5332 xq14 a5352 u5353 h5354 h5355 h8082 h9318 h9573 a9828 h9829 h10074 h10319 w10564 w10565 r10566 r10567 r10568 h10569 h10589 h10590 w10591 w10594 w10593 w10595 w10597 w10599 w10598 w10601 w10603 w10602 w10604 w10608 w10607 a10609 ⊢) <;> (try simp (disch := omega) only [zb] at u5318 xq2 h5319 xq12 h5332 xq14 a5352 u5353 h5354 h5355 h8082 h9318 h9573 a9828 h9829 h10074 h10319 w10564 w10565 r10566 r10567 r10568 h10569 h10589 h10590 w10591 w10594 w10593 w10595 w10597 w10599 w10598 w10601 w10603 w10602 w10604 w10608 w10607 a10609 ⊢) <;> first | omega | ((try simp (disch := omega) only [zb] at u5318 xq2 h5319 xq12 h5332 xq14 a5352 u5353 h5354 h5355 h8082 h9318 h9573 a9828 h9829 h10074 h10319 w10564 w10565 r10566 r10567 r10568 h10569 h10589 h10590 w10591 w10594 w10593 w10595 w10597 w10599 w10598 w10601 w10603 w10602 w10604 w10608 w10607 a10609 ⊢) <;> omega))⟩
                          · unfold fX9_pair_250
                            refine sw_ite (fun h10610 => ?_) (fun h10610 => ?_)
                            · unfold fX9_pair_264
                              refine sw_ite (fun h10611 => ?_) (fun h10611 => ?_)
                              · have w10612 : mm_I s11 p0 0 = mm_I q2.2 p0 0 := by rw [← es11]; exact rd_k t_p0 tq5 (by decide)
                                have w10615 : rdA s11 p0 9 1 = mm_I s11 q17 ((1 : Int32)).toNatClampNeg := rdA_eq eq17
                                have w10614 : rdA s11 p0 9 1 = rdA q2.2 p0 9 1 := by rw [← es11]; exact rdA_k cq2 t_p0 (κ' := 59) rfl tq5 (by decide)
                                have w10616 := rdA_fr (k := 9) (j := 1) gq2 c0 t_p0 (κ' := 59) rfl rfl rfl
                                have w10618 : rdA s11 p0 10 1 = rdA q2.2 p0 10 1 := by rw [← es11]; exact rdA_j (by decide)
                                have w10620 : rdA q2.2 p0 10 1 = mm_I q2.2 q5 ((1 : Int32)).toNatClampNeg := rdA_eq eq5
                                have w10619 := rdA_fr (k := 10) (j := 1) gq2 c0 t_p0 (κ' := 60) rfl rfl rfl
                                have w10622 : rdA s11 p0 10 0 = -1 := by rw [← es11]; exact rdA_self eq5
                                have w10624 : rdA s11 p0 9 0 = mm_I s11 q17 ((0 : Int32)).toNatClampNeg := rdA_eq eq17
                                have w10623 : rdA s11 p0 9 0 = rdA q2.2 p0 9 0 := by rw [← es11]; exact rdA_k cq2 t_p0 (κ' := 59) rfl tq5 (by decide)
                                have w10625 := rdA_fr (k := 9) (j := 0) gq2 c0 t_p0 (κ' := 59) rfl rfl rfl
                                have w10629 : rdA q2.2 p0 10 0 = mm_I q2.2 q5 ((0 : Int32)).toNatClampNeg := rdA_eq eq5
                                have w10628 := rdA_fr (k := 10) (j := 0) gq2 c0 t_p0 (κ' := 60) rfl rfl rfl
                                have a10630 := zi_and p2 8 (by decide)
                                exact sw_some ⟨cs11, fs11, (by (try simp only [zp, zo, zq] at u5318 xq2 h5319 xq12 h5332 xq14 a5352 u5353 h5354 h5355 h8082 h9318 h9573 a9828 h9829 h10074 h10319 w10564 w10565 r10566 r10567 r10568 h10569 h10589 h10590 h10610 h10611 w10612 w10615 w10614 w10616 w10618 w10620 w10619 w10622 w10624 w10623 w10625 w10629 w10628 a10630 ⊢) <;> (try simp only [zz, Int32.reduceToInt, ne_eq] at u5318 xq2 h5319 xq12 h5332 xq14 a5352 u5353 h5354 h5355 h8082 h9318 h9573 a9828 h9829 h10074 h10319 w10564 w10565 r10566 r10567 r10568 h10569 h10589 h10590 h10610 h10611 w10612 w10615 w10614 w10616 w10618 w10620 w10619 w10622 w10624 w10623 w10625 w10629 w10628 a10630 ⊢) <;> (try simp (disch := omega) only [zb] at u5318 xq2 h5319 xq12 h5332 xq14 a5352 u5353 h5354 h5355 h8082 h9318 h9573 a9828 h9829 h10074 h10319 w10564 w10565 r10566 r10567 r10568 h10569 h10589 h10590 h10610 h10611 w10612 w10615 w10614 w10616 w10618 w10620 w10619 w10622 w10624 w10623 w10625 w10629 w10628 a10630 ⊢) <;> first | omega | ((try simp (disch := omega) only [zb] at u5318 xq2 h5319 xq12 h5332 xq14 a5352 u5353 h5354 h5355 h8082 h9318 h9573 a9828 h9829 h10074 h10319 w10564 w10565 r10566 r10567 r10568 h10569 h10589 h10590 h10610 h10611 w10612 w10615 w10614 w10616 w10618 w10620 w10619 w10622 w10624 w10623 w10625 w10629 w10628 a10630 ⊢) <;> omega))⟩
                              · refine sw_sh (ci_sh cs11 t_p0 rfl) ?_
                                refine sw_on (sX9_put cs11 t_p0 (by (try simp only [zp, zo, zq] at u5318 xq2 h5319 xq12 h5332 xq14 a5352 u5353 h5354 h5355 h8082 h9318 h9573 a9828 h9829 h10074 h10319 w10564 w10565 r10566 r10567 r10568 h10569 h10589 h10590 h10610 h10611 ⊢) <;> (try simp only [zz, Int32.reduceToInt, ne_eq] at u5318 xq2 h5319 xq12 h5332 xq14 a5352 u5353 h5354 h5355 h8082 h9318 h9573 a9828 h9829 h10074 h10319 w10564 w10565 r10566 r10567 r10568 h10569 h10589 h10590 h10610 h10611 ⊢) <;> (try simp (disch := omega) only [zb] at u5318 xq2 h5319 xq12 h5332 xq14 a5352 u5353 h5354 h5355 h8082 h9318 h9573 a9828 h9829 h10074 h10319 w10564 w10565 r10566 r10567 r10568 h10569 h10589 h10590 h10610 h10611 ⊢) <;> first | omega | ((try simp (disch := omega) only [zb] at u5318 xq2 h5319 xq12 h5332 xq14 a5352 u5353 h5354 h5355 h8082 h9318 h9573 a9828 h9829 h10074 h10319 w10564 w10565 r10566 r10567 r10568 h10569 h10589 h10590 h10610 h10611 ⊢) <;> omega)) ) ?_
                                intro q28 hqq28
                                obtain ⟨cq28, gq28, xq28⟩ := hqq28
                                have fq28 := fr_trans fs11 gq28 rfl
                                have w10631 := (gq28.2.2 _ _ t_p0 0 rfl).1
                                have w10632 : mm_I s11 p0 0 = mm_I q2.2 p0 0 := by rw [← es11]; exact rd_k t_p0 tq5 (by decide)
                                have w10634 := rdA_fr (k := 9) (j := 1) gq28 cs11 t_p0 (κ' := 59) rfl rfl rfl
                                have w10636 : rdA s11 p0 9 1 = mm_I s11 q17 ((1 : Int32)).toNatClampNeg := rdA_eq eq17
                                have w10635 : rdA s11 p0 9 1 = rdA q2.2 p0 9 1 := by rw [← es11]; exact rdA_k cq2 t_p0 (κ' := 59) rfl tq5 (by decide)
                                have w10637 := rdA_fr (k := 9) (j := 1) gq2 c0 t_p0 (κ' := 59) rfl rfl rfl
                                have w10639 := rdA_fr (k := 10) (j := 1) gq28 cs11 t_p0 (κ' := 60) rfl rfl rfl
                                have w10640 : rdA s11 p0 10 1 = rdA q2.2 p0 10 1 := by rw [← es11]; exact rdA_j (by decide)
                                have w10642 : rdA q2.2 p0 10 1 = mm_I q2.2 q5 ((1 : Int32)).toNatClampNeg := rdA_eq eq5
                                have w10641 := rdA_fr (k := 10) (j := 1) gq2 c0 t_p0 (κ' := 60) rfl rfl rfl
                                have w10644 := rdA_fr (k := 10) (j := 0) gq28 cs11 t_p0 (κ' := 60) rfl rfl rfl
                                have w10645 : rdA s11 p0 10 0 = -1 := by rw [← es11]; exact rdA_self eq5
                                have w10646 := rdA_fr (k := 9) (j := 0) gq28 cs11 t_p0 (κ' := 59) rfl rfl rfl
                                have w10648 : rdA s11 p0 9 0 = mm_I s11 q17 ((0 : Int32)).toNatClampNeg := rdA_eq eq17
                                have w10647 : rdA s11 p0 9 0 = rdA q2.2 p0 9 0 := by rw [← es11]; exact rdA_k cq2 t_p0 (κ' := 59) rfl tq5 (by decide)
                                have w10649 := rdA_fr (k := 9) (j := 0) gq2 c0 t_p0 (κ' := 59) rfl rfl rfl
                                have w10653 : rdA q2.2 p0 10 0 = mm_I q2.2 q5 ((0 : Int32)).toNatClampNeg := rdA_eq eq5
                                have w10652 := rdA_fr (k := 10) (j := 0) gq2 c0 t_p0 (κ' := 60) rfl rfl rfl
                                have a10654 := zi_and p2 8 (by decide)
                                exact sw_some ⟨cq28, fq28, (by (try simp only [zp, zo, zq] at u5318 xq2 h5319 xq12 h5332 xq14 a5352 u5353 h5354 h5355 h8082 h9318 h9573 a9828 h9829 h10074 h10319 w10564 w10565 r10566 r10567 r10568 h10569 h10589 h10590 h10610 h10611 w10631 w10632 w10634 w10636 w10635 w10637 w10639 w10640 w10642 w10641 w10644 w10645 w10646 w10648 w10647 w10649 w10653 w10652 a10654 ⊢) <;> (try simp only [zz, Int32.reduceToInt, ne_eq] at u5318 xq2 h5319 xq12 h5332 xq14 a5352 u5353 h5354 h5355 h8082 h9318 h9573 a9828 h9829 h10074 h10319 w10564 w10565 r10566 r10567 r10568 h10569 h10589 h10590 h10610 h10611 w10631 w10632 w10634 w10636 w10635 w10637 w10639 w10640 w10642 w10641 w10644 w10645 w10646 w10648 w10647 w10649 w10653 w10652 a10654 ⊢) <;> (try simp (disch := omega) only [zb] at u5318 xq2 h5319 xq12 h5332 xq14 a5352 u5353 h5354 h5355 h8082 h9318 h9573 a9828 h9829 h10074 h10319 w10564 w10565 r10566 r10567 r10568 h10569 h10589 h10590 h10610 h10611 w10631 w10632 w10634 w10636 w10635 w10637 w10639 w10640 w10642 w10641 w10644 w10645 w10646 w10648 w10647 w10649 w10653 w10652 a10654 ⊢) <;> first | omega | ((try simp (disch := omega) only [zb] at u5318 xq2 h5319 xq12 h5332 xq14 a5352 u5353 h5354 h5355 h8082 h9318 h9573 a9828 h9829 h10074 h10319 w10564 w10565 r10566 r10567 r10568 h10569 h10589 h10590 h10610 h10611 w10631 w10632 w10634 w10636 w10635 w10637 w10639 w10640 w10642 w10641 w10644 w10645 w10646 w10648 w10647 w10649 w10653 w10652 a10654 ⊢) <;> omega))⟩
                            · refine sw_sh (ci_sh cs11 t_p0 rfl) ?_
                              refine sw_on (sX9_put cs11 t_p0 (by (try simp only [zp, zo, zq] at u5318 xq2 h5319 xq12 h5332 xq14 a5352 u5353 h5354 h5355 h8082 h9318 h9573 a9828 h9829 h10074 h10319 w10564 w10565 r10566 r10567 r10568 h10569 h10589 h10590 h10610 ⊢) <;> (try simp only [zz, Int32.reduceToInt, ne_eq] at u5318 xq2 h5319 xq12 h5332 xq14 a5352 u5353 h5354 h5355 h8082 h9318 h9573 a9828 h9829 h10074 h10319 w10564 w10565 r10566 r10567 r10568 h10569 h10589 h10590 h10610 ⊢) <;> (try simp (disch := omega) only [zb] at u5318 xq2 h5319 xq12 h5332 xq14 a5352 u5353 h5354 h5355 h8082 h9318 h9573 a9828 h9829 h10074 h10319 w10564 w10565 r10566 r10567 r10568 h10569 h10589 h10590 h10610 ⊢) <;> first | omega | ((try simp (disch := omega) only [zb] at u5318 xq2 h5319 xq12 h5332 xq14 a5352 u5353 h5354 h5355 h8082 h9318 h9573 a9828 h9829 h10074 h10319 w10564 w10565 r10566 r10567 r10568 h10569 h10589 h10590 h10610 ⊢) <;> omega)) ) ?_
                              intro q30 hqq30
                              obtain ⟨cq30, gq30, xq30⟩ := hqq30
                              have fq30 := fr_trans fs11 gq30 rfl
                              unfold fX9_pair_264
                              refine sw_ite (fun h10655 => ?_) (fun h10655 => ?_)
                              · have w10656 := (gq30.2.2 _ _ t_p0 0 rfl).1
                                have w10657 : mm_I s11 p0 0 = mm_I q2.2 p0 0 := by rw [← es11]; exact rd_k t_p0 tq5 (by decide)
                                have w10659 := rdA_fr (k := 9) (j := 1) gq30 cs11 t_p0 (κ' := 59) rfl rfl rfl
                                have w10661 : rdA s11 p0 9 1 = mm_I s11 q17 ((1 : Int32)).toNatClampNeg := rdA_eq eq17
                                have w10660 : rdA s11 p0 9 1 = rdA q2.2 p0 9 1 := by rw [← es11]; exact rdA_k cq2 t_p0 (κ' := 59) rfl tq5 (by decide)
                                have w10662 := rdA_fr (k := 9) (j := 1) gq2 c0 t_p0 (κ' := 59) rfl rfl rfl
                                have w10664 := rdA_fr (k := 10) (j := 1) gq30 cs11 t_p0 (κ' := 60) rfl rfl rfl
                                have w10665 : rdA s11 p0 10 1 = rdA q2.2 p0 10 1 := by rw [← es11]; exact rdA_j (by decide)
                                have w10667 : rdA q2.2 p0 10 1 = mm_I q2.2 q5 ((1 : Int32)).toNatClampNeg := rdA_eq eq5
                                have w10666 := rdA_fr (k := 10) (j := 1) gq2 c0 t_p0 (κ' := 60) rfl rfl rfl
                                have w10669 := rdA_fr (k := 10) (j := 0) gq30 cs11 t_p0 (κ' := 60) rfl rfl rfl
                                have w10670 : rdA s11 p0 10 0 = -1 := by rw [← es11]; exact rdA_self eq5
                                have w10671 := rdA_fr (k := 9) (j := 0) gq30 cs11 t_p0 (κ' := 59) rfl rfl rfl
                                have w10673 : rdA s11 p0 9 0 = mm_I s11 q17 ((0 : Int32)).toNatClampNeg := rdA_eq eq17
                                have w10672 : rdA s11 p0 9 0 = rdA q2.2 p0 9 0 := by rw [← es11]; exact rdA_k cq2 t_p0 (κ' := 59) rfl tq5 (by decide)
                                have w10674 := rdA_fr (k := 9) (j := 0) gq2 c0 t_p0 (κ' := 59) rfl rfl rfl
                                have w10678 : rdA q2.2 p0 10 0 = mm_I q2.2 q5 ((0 : Int32)).toNatClampNeg := rdA_eq eq5
                                have w10677 := rdA_fr (k := 10) (j := 0) gq2 c0 t_p0 (κ' := 60) rfl rfl rfl
                                have a10679 := zi_and p2 8 (by decide)
                                exact sw_some ⟨cq30, fq30, (by (try simp only [zp, zo, zq] at u5318 xq2 h5319 xq12 h5332 xq14 a5352 u5353 h5354 h5355 h8082 h9318 h9573 a9828 h9829 h10074 h10319 w10564 w10565 r10566 r10567 r10568 h10569 h10589 h10590 h10610 h10655 w10656 w10657 w10659 w10661 w10660 w10662 w10664 w10665 w10667 w10666 w10669 w10670 w10671 w10673 w10672 w10674 w10678 w10677 a10679 ⊢) <;> (try simp only [zz, Int32.reduceToInt, ne_eq] at u5318 xq2 h5319 xq12 h5332 xq14 a5352 u5353 h5354 h5355 h8082 h9318 h9573 a9828 h9829 h10074 h10319 w10564 w10565 r10566 r10567 r10568 h10569 h10589 h10590 h10610 h10655 w10656 w10657 w10659 w10661 w10660 w10662 w10664 w10665 w10667 w10666 w10669 w10670 w10671 w10673 w10672 w10674 w10678 w10677 a10679 ⊢) <;> (try simp (disch := omega) only [zb] at u5318 xq2 h5319 xq12 h5332 xq14 a5352 u5353 h5354 h5355 h8082 h9318 h9573 a9828 h9829 h10074 h10319 w10564 w10565 r10566 r10567 r10568 h10569 h10589 h10590 h10610 h10655 w10656 w10657 w10659 w10661 w10660 w10662 w10664 w10665 w10667 w10666 w10669 w10670 w10671 w10673 w10672 w10674 w10678 w10677 a10679 ⊢) <;> first | omega | ((try simp (disch := omega) only [zb] at u5318 xq2 h5319 xq12 h5332 xq14 a5352 u5353 h5354 h5355 h8082 h9318 h9573 a9828 h9829 h10074 h10319 w10564 w10565 r10566 r10567 r10568 h10569 h10589 h10590 h10610 h10655 w10656 w10657 w10659 w10661 w10660 w10662 w10664 w10665 w10667 w10666 w10669 w10670 w10671 w10673 w10672 w10674 w10678 w10677 a10679 ⊢) <;> omega))⟩
                              · refine sw_sh (ci_sh cq30 t_p0 rfl) ?_
                                refine sw_on (sX9_put cq30 t_p0 (by (try simp only [zp, zo, zq] at u5318 xq2 h5319 xq12 h5332 xq14 a5352 u5353 h5354 h5355 h8082 h9318 h9573 a9828 h9829 h10074 h10319 w10564 w10565 r10566 r10567 r10568 h10569 h10589 h10590 h10610 h10655 ⊢) <;> (try simp only [zz, Int32.reduceToInt, ne_eq] at u5318 xq2 h5319 xq12 h5332 xq14 a5352 u5353 h5354 h5355 h8082 h9318 h9573 a9828 h9829 h10074 h10319 w10564 w10565 r10566 r10567 r10568 h10569 h10589 h10590 h10610 h10655 ⊢) <;> (try simp (disch := omega) only [zb] at u5318 xq2 h5319 xq12 h5332 xq14 a5352 u5353 h5354 h5355 h8082 h9318 h9573 a9828 h9829 h10074 h10319 w10564 w10565 r10566 r10567 r10568 h10569 h10589 h10590 h10610 h10655 ⊢) <;> first | omega | ((try simp (disch := omega) only [zb] at u5318 xq2 h5319 xq12 h5332 xq14 a5352 u5353 h5354 h5355 h8082 h9318 h9573 a9828 h9829 h10074 h10319 w10564 w10565 r10566 r10567 r10568 h10569 h10589 h10590 h10610 h10655 ⊢) <;> omega)) ) ?_
                                intro q28 hqq28
                                obtain ⟨cq28, gq28, xq28⟩ := hqq28
                                have fq28 := fr_trans fq30 gq28 rfl
                                have w10680 := (gq28.2.2 _ _ t_p0 0 rfl).1
                                have w10681 := (gq30.2.2 _ _ t_p0 0 rfl).1
                                have w10682 : mm_I s11 p0 0 = mm_I q2.2 p0 0 := by rw [← es11]; exact rd_k t_p0 tq5 (by decide)
                                have w10684 := rdA_fr (k := 9) (j := 1) gq28 cq30 t_p0 (κ' := 59) rfl rfl rfl
                                have w10685 := rdA_fr (k := 9) (j := 1) gq30 cs11 t_p0 (κ' := 59) rfl rfl rfl
                                have w10687 : rdA s11 p0 9 1 = mm_I s11 q17 ((1 : Int32)).toNatClampNeg := rdA_eq eq17
                                have w10686 : rdA s11 p0 9 1 = rdA q2.2 p0 9 1 := by rw [← es11]; exact rdA_k cq2 t_p0 (κ' := 59) rfl tq5 (by decide)
                                have w10688 := rdA_fr (k := 9) (j := 1) gq2 c0 t_p0 (κ' := 59) rfl rfl rfl
                                have w10690 := rdA_fr (k := 10) (j := 1) gq28 cq30 t_p0 (κ' := 60) rfl rfl rfl
                                have w10691 := rdA_fr (k := 10) (j := 1) gq30 cs11 t_p0 (κ' := 60) rfl rfl rfl
                                have w10692 : rdA s11 p0 10 1 = rdA q2.2 p0 10 1 := by rw [← es11]; exact rdA_j (by decide)
                                have w10694 : rdA q2.2 p0 10 1 = mm_I q2.2 q5 ((1 : Int32)).toNatClampNeg := rdA_eq eq5
                                have w10693 := rdA_fr (k := 10) (j := 1) gq2 c0 t_p0 (κ' := 60) rfl rfl rfl
                                have w10696 := rdA_fr (k := 10) (j := 0) gq28 cq30 t_p0 (κ' := 60) rfl rfl rfl
                                have w10697 := rdA_fr (k := 10) (j := 0) gq30 cs11 t_p0 (κ' := 60) rfl rfl rfl
                                have w10698 : rdA s11 p0 10 0 = -1 := by rw [← es11]; exact rdA_self eq5
                                have w10699 := rdA_fr (k := 9) (j := 0) gq28 cq30 t_p0 (κ' := 59) rfl rfl rfl
                                have w10700 := rdA_fr (k := 9) (j := 0) gq30 cs11 t_p0 (κ' := 59) rfl rfl rfl
                                have w10702 : rdA s11 p0 9 0 = mm_I s11 q17 ((0 : Int32)).toNatClampNeg := rdA_eq eq17
                                have w10701 : rdA s11 p0 9 0 = rdA q2.2 p0 9 0 := by rw [← es11]; exact rdA_k cq2 t_p0 (κ' := 59) rfl tq5 (by decide)
                                have w10703 := rdA_fr (k := 9) (j := 0) gq2 c0 t_p0 (κ' := 59) rfl rfl rfl
                                have w10707 : rdA q2.2 p0 10 0 = mm_I q2.2 q5 ((0 : Int32)).toNatClampNeg := rdA_eq eq5
                                have w10706 := rdA_fr (k := 10) (j := 0) gq2 c0 t_p0 (κ' := 60) rfl rfl rfl
                                have a10708 := zi_and p2 8 (by decide)
                                exact sw_some ⟨cq28, fq28, (by (try simp only [zp, zo, zq] at u5318 xq2 h5319 xq12 h5332 xq14 a5352 u5353 h5354 h5355 h8082 h9318 h9573 a9828 h9829 h10074 h10319 w10564 w10565 r10566 r10567 r10568 h10569 h10589 h10590 h10610 h10655 w10680 w10681 w10682 w10684 w10685 w10687 w10686 w10688 w10690 w10691 w10692 w10694 w10693 w10696 w10697 w10698 w10699 w10700 w10702 w10701 w10703 w10707 w10706 a10708 ⊢) <;> (try simp only [zz, Int32.reduceToInt, ne_eq] at u5318 xq2 h5319 xq12 h5332 xq14 a5352 u5353 h5354 h5355 h8082 h9318 h9573 a9828 h9829 h10074 h10319 w10564 w10565 r10566 r10567 r10568 h10569 h10589 h10590 h10610 h10655 w10680 w10681 w10682 w10684 w10685 w10687 w10686 w10688 w10690 w10691 w10692 w10694 w10693 w10696 w10697 w10698 w10699 w10700 w10702 w10701 w10703 w10707 w10706 a10708 ⊢) <;> (try simp (disch := omega) only [zb] at u5318 xq2 h5319 xq12 h5332 xq14 a5352 u5353 h5354 h5355 h8082 h9318 h9573 a9828 h9829 h10074 h10319 w10564 w10565 r10566 r10567 r10568 h10569 h10589 h10590 h10610 h10655 w10680 w10681 w10682 w10684 w10685 w10687 w10686 w10688 w10690 w10691 w10692 w10694 w10693 w10696 w10697 w10698 w10699 w10700 w10702 w10701 w10703 w10707 w10706 a10708 ⊢) <;> first | omega | ((try simp (disch := omega) only [zb] at u5318 xq2 h5319 xq12 h5332 xq14 a5352 u5353 h5354 h5355 h8082 h9318 h9573 a9828 h9829 h10074 h10319 w10564 w10565 r10566 r10567 r10568 h10569 h10589 h10590 h10610 h10655 w10680 w10681 w10682 w10684 w10685 w10687 w10686 w10688 w10690 w10691 w10692 w10694 w10693 w10696 w10697 w10698 w10699 w10700 w10702 w10701 w10703 w10707 w10706 a10708 ⊢) <;> omega))⟩
                        · unfold fX9_pair_250
                          refine sw_ite (fun h10709 => ?_) (fun h10709 => ?_)
                          · unfold fX9_pair_264
                            refine sw_ite (fun h10710 => ?_) (fun h10710 => ?_)
                            · have w10711 : mm_I s11 p0 0 = mm_I q2.2 p0 0 := by rw [← es11]; exact rd_k t_p0 tq5 (by decide)
                              have w10714 : rdA s11 p0 9 1 = mm_I s11 q17 ((1 : Int32)).toNatClampNeg := rdA_eq eq17
                              have w10713 : rdA s11 p0 9 1 = rdA q2.2 p0 9 1 := by rw [← es11]; exact rdA_k cq2 t_p0 (κ' := 59) rfl tq5 (by decide)
                              have w10715 := rdA_fr (k := 9) (j := 1) gq2 c0 t_p0 (κ' := 59) rfl rfl rfl
                              have w10717 : rdA s11 p0 10 1 = rdA q2.2 p0 10 1 := by rw [← es11]; exact rdA_j (by decide)
                              have w10719 : rdA q2.2 p0 10 1 = mm_I q2.2 q5 ((1 : Int32)).toNatClampNeg := rdA_eq eq5
                              have w10718 := rdA_fr (k := 10) (j := 1) gq2 c0 t_p0 (κ' := 60) rfl rfl rfl
                              have w10721 : rdA s11 p0 10 0 = -1 := by rw [← es11]; exact rdA_self eq5
                              have w10723 : rdA s11 p0 9 0 = mm_I s11 q17 ((0 : Int32)).toNatClampNeg := rdA_eq eq17
                              have w10722 : rdA s11 p0 9 0 = rdA q2.2 p0 9 0 := by rw [← es11]; exact rdA_k cq2 t_p0 (κ' := 59) rfl tq5 (by decide)
                              have w10724 := rdA_fr (k := 9) (j := 0) gq2 c0 t_p0 (κ' := 59) rfl rfl rfl
                              have w10728 : rdA q2.2 p0 10 0 = mm_I q2.2 q5 ((0 : Int32)).toNatClampNeg := rdA_eq eq5
                              have w10727 := rdA_fr (k := 10) (j := 0) gq2 c0 t_p0 (κ' := 60) rfl rfl rfl
                              have a10729 := zi_and p2 8 (by decide)
                              exact sw_some ⟨cs11, fs11, (by (try simp only [zp, zo, zq] at u5318 xq2 h5319 xq12 h5332 xq14 a5352 u5353 h5354 h5355 h8082 h9318 h9573 a9828 h9829 h10074 h10319 w10564 w10565 r10566 r10567 r10568 h10569 h10589 h10709 h10710 w10711 w10714 w10713 w10715 w10717 w10719 w10718 w10721 w10723 w10722 w10724 w10728 w10727 a10729 ⊢) <;> (try simp only [zz, Int32.reduceToInt, ne_eq] at u5318 xq2 h5319 xq12 h5332 xq14 a5352 u5353 h5354 h5355 h8082 h9318 h9573 a9828 h9829 h10074 h10319 w10564 w10565 r10566 r10567 r10568 h10569 h10589 h10709 h10710 w10711 w10714 w10713 w10715 w10717 w10719 w10718 w10721 w10723 w10722 w10724 w10728 w10727 a10729 ⊢) <;> (try simp (disch := omega) only [zb] at u5318 xq2 h5319 xq12 h5332 xq14 a5352 u5353 h5354 h5355 h8082 h9318 h9573 a9828 h9829 h10074 h10319 w10564 w10565 r10566 r10567 r10568 h10569 h10589 h10709 h10710 w10711 w10714 w10713 w10715 w10717 w10719 w10718 w10721 w10723 w10722 w10724 w10728 w10727 a10729 ⊢) <;> first | omega | ((try simp (disch := omega) only [zb] at u5318 xq2 h5319 xq12 h5332 xq14 a5352 u5353 h5354 h5355 h8082 h9318 h9573 a9828 h9829 h10074 h10319 w10564 w10565 r10566 r10567 r10568 h10569 h10589 h10709 h10710 w10711 w10714 w10713 w10715 w10717 w10719 w10718 w10721 w10723 w10722 w10724 w10728 w10727 a10729 ⊢) <;> omega))⟩
                            · refine sw_sh (ci_sh cs11 t_p0 rfl) ?_
                              refine sw_on (sX9_put cs11 t_p0 (by (try simp only [zp, zo, zq] at u5318 xq2 h5319 xq12 h5332 xq14 a5352 u5353 h5354 h5355 h8082 h9318 h9573 a9828 h9829 h10074 h10319 w10564 w10565 r10566 r10567 r10568 h10569 h10589 h10709 h10710 ⊢) <;> (try simp only [zz, Int32.reduceToInt, ne_eq] at u5318 xq2 h5319 xq12 h5332 xq14 a5352 u5353 h5354 h5355 h8082 h9318 h9573 a9828 h9829 h10074 h10319 w10564 w10565 r10566 r10567 r10568 h10569 h10589 h10709 h10710 ⊢) <;> (try simp (disch := omega) only [zb] at u5318 xq2 h5319 xq12 h5332 xq14 a5352 u5353 h5354 h5355 h8082 h9318 h9573 a9828 h9829 h10074 h10319 w10564 w10565 r10566 r10567 r10568 h10569 h10589 h10709 h10710 ⊢) <;> first | omega | ((try simp (disch := omega) only [zb] at u5318 xq2 h5319 xq12 h5332 xq14 a5352 u5353 h5354 h5355 h8082 h9318 h9573 a9828 h9829 h10074 h10319 w10564 w10565 r10566 r10567 r10568 h10569 h10589 h10709 h10710 ⊢) <;> omega)) ) ?_
                              intro q28 hqq28
                              obtain ⟨cq28, gq28, xq28⟩ := hqq28
                              have fq28 := fr_trans fs11 gq28 rfl
                              have w10730 := (gq28.2.2 _ _ t_p0 0 rfl).1
                              have w10731 : mm_I s11 p0 0 = mm_I q2.2 p0 0 := by rw [← es11]; exact rd_k t_p0 tq5 (by decide)
                              have w10733 := rdA_fr (k := 9) (j := 1) gq28 cs11 t_p0 (κ' := 59) rfl rfl rfl
                              have w10735 : rdA s11 p0 9 1 = mm_I s11 q17 ((1 : Int32)).toNatClampNeg := rdA_eq eq17
                              have w10734 : rdA s11 p0 9 1 = rdA q2.2 p0 9 1 := by rw [← es11]; exact rdA_k cq2 t_p0 (κ' := 59) rfl tq5 (by decide)
                              have w10736 := rdA_fr (k := 9) (j := 1) gq2 c0 t_p0 (κ' := 59) rfl rfl rfl
                              have w10738 := rdA_fr (k := 10) (j := 1) gq28 cs11 t_p0 (κ' := 60) rfl rfl rfl
                              have w10739 : rdA s11 p0 10 1 = rdA q2.2 p0 10 1 := by rw [← es11]; exact rdA_j (by decide)
                              have w10741 : rdA q2.2 p0 10 1 = mm_I q2.2 q5 ((1 : Int32)).toNatClampNeg := rdA_eq eq5
                              have w10740 := rdA_fr (k := 10) (j := 1) gq2 c0 t_p0 (κ' := 60) rfl rfl rfl
                              have w10743 := rdA_fr (k := 10) (j := 0) gq28 cs11 t_p0 (κ' := 60) rfl rfl rfl
                              have w10744 : rdA s11 p0 10 0 = -1 := by rw [← es11]; exact rdA_self eq5
                              have w10745 := rdA_fr (k := 9) (j := 0) gq28 cs11 t_p0 (κ' := 59) rfl rfl rfl
                              have w10747 : rdA s11 p0 9 0 = mm_I s11 q17 ((0 : Int32)).toNatClampNeg := rdA_eq eq17
                              have w10746 : rdA s11 p0 9 0 = rdA q2.2 p0 9 0 := by rw [← es11]; exact rdA_k cq2 t_p0 (κ' := 59) rfl tq5 (by decide)
                              have w10748 := rdA_fr (k := 9) (j := 0) gq2 c0 t_p0 (κ' := 59) rfl rfl rfl
                              have w10752 : rdA q2.2 p0 10 0 = mm_I q2.2 q5 ((0 : Int32)).toNatClampNeg := rdA_eq eq5
                              have w10751 := rdA_fr (k := 10) (j := 0) gq2 c0 t_p0 (κ' := 60) rfl rfl rfl
                              have a10753 := zi_and p2 8 (by decide)
                              exact sw_some ⟨cq28, fq28, (by (try simp only [zp, zo, zq] at u5318 xq2 h5319 xq12 h5332 xq14 a5352 u5353 h5354 h5355 h8082 h9318 h9573 a9828 h9829 h10074 h10319 w10564 w10565 r10566 r10567 r10568 h10569 h10589 h10709 h10710 w10730 w10731 w10733 w10735 w10734 w10736 w10738 w10739 w10741 w10740 w10743 w10744 w10745 w10747 w10746 w10748 w10752 w10751 a10753 ⊢) <;> (try simp only [zz, Int32.reduceToInt, ne_eq] at u5318 xq2 h5319 xq12 h5332 xq14 a5352 u5353 h5354 h5355 h8082 h9318 h9573 a9828 h9829 h10074 h10319 w10564 w10565 r10566 r10567 r10568 h10569 h10589 h10709 h10710 w10730 w10731 w10733 w10735 w10734 w10736 w10738 w10739 w10741 w10740 w10743 w10744 w10745 w10747 w10746 w10748 w10752 w10751 a10753 ⊢) <;> (try simp (disch := omega) only [zb] at u5318 xq2 h5319 xq12 h5332 xq14 a5352 u5353 h5354 h5355 h8082 h9318 h9573 a9828 h9829 h10074 h10319 w10564 w10565 r10566 r10567 r10568 h10569 h10589 h10709 h10710 w10730 w10731 w10733 w10735 w10734 w10736 w10738 w10739 w10741 w10740 w10743 w10744 w10745 w10747 w10746 w10748 w10752 w10751 a10753 ⊢) <;> first | omega | ((try simp (disch := omega) only [zb] at u5318 xq2 h5319 xq12 h5332 xq14 a5352 u5353 h5354 h5355 h8082 h9318 h9573 a9828 h9829 h10074 h10319 w10564 w10565 r10566 r10567 r10568 h10569 h10589 h10709 h10710 w10730 w10731 w10733 w10735 w10734 w10736 w10738 w10739 w10741 w10740 w10743 w10744 w10745 w10747 w10746 w10748 w10752 w10751 a10753 ⊢) <;> omega))⟩
                          · refine sw_sh (ci_sh cs11 t_p0 rfl) ?_
                            refine sw_on (sX9_put cs11 t_p0 (by (try simp only [zp, zo, zq] at u5318 xq2 h5319 xq12 h5332 xq14 a5352 u5353 h5354 h5355 h8082 h9318 h9573 a9828 h9829 h10074 h10319 w10564 w10565 r10566 r10567 r10568 h10569 h10589 h10709 ⊢) <;> (try simp only [zz, Int32.reduceToInt, ne_eq] at u5318 xq2 h5319 xq12 h5332 xq14 a5352 u5353 h5354 h5355 h8082 h9318 h9573 a9828 h9829 h10074 h10319 w10564 w10565 r10566 r10567 r10568 h10569 h10589 h10709 ⊢) <;> (try simp (disch := omega) only [zb] at u5318 xq2 h5319 xq12 h5332 xq14 a5352 u5353 h5354 h5355 h8082 h9318 h9573 a9828 h9829 h10074 h10319 w10564 w10565 r10566 r10567 r10568 h10569 h10589 h10709 ⊢) <;> first | omega | ((try simp (disch := omega) only [zb] at u5318 xq2 h5319 xq12 h5332 xq14 a5352 u5353 h5354 h5355 h8082 h9318 h9573 a9828 h9829 h10074 h10319 w10564 w10565 r10566 r10567 r10568 h10569 h10589 h10709 ⊢) <;> omega)) ) ?_
                            intro q30 hqq30
                            obtain ⟨cq30, gq30, xq30⟩ := hqq30
                            have fq30 := fr_trans fs11 gq30 rfl
                            unfold fX9_pair_264
                            refine sw_ite (fun h10754 => ?_) (fun h10754 => ?_)
                            · have w10755 := (gq30.2.2 _ _ t_p0 0 rfl).1
                              have w10756 : mm_I s11 p0 0 = mm_I q2.2 p0 0 := by rw [← es11]; exact rd_k t_p0 tq5 (by decide)
                              have w10758 := rdA_fr (k := 9) (j := 1) gq30 cs11 t_p0 (κ' := 59) rfl rfl rfl
                              have w10760 : rdA s11 p0 9 1 = mm_I s11 q17 ((1 : Int32)).toNatClampNeg := rdA_eq eq17
                              have w10759 : rdA s11 p0 9 1 = rdA q2.2 p0 9 1 := by rw [← es11]; exact rdA_k cq2 t_p0 (κ' := 59) rfl tq5 (by decide)
                              have w10761 := rdA_fr (k := 9) (j := 1) gq2 c0 t_p0 (κ' := 59) rfl rfl rfl
                              have w10763 := rdA_fr (k := 10) (j := 1) gq30 cs11 t_p0 (κ' := 60) rfl rfl rfl
                              have w10764 : rdA s11 p0 10 1 = rdA q2.2 p0 10 1 := by rw [← es11]; exact rdA_j (by decide)
                              have w10766 : rdA q2.2 p0 10 1 = mm_I q2.2 q5 ((1 : Int32)).toNatClampNeg := rdA_eq eq5
                              have w10765 := rdA_fr (k := 10) (j := 1) gq2 c0 t_p0 (κ' := 60) rfl rfl rfl
                              have w10768 := rdA_fr (k := 10) (j := 0) gq30 cs11 t_p0 (κ' := 60) rfl rfl rfl
                              have w10769 : rdA s11 p0 10 0 = -1 := by rw [← es11]; exact rdA_self eq5
                              have w10770 := rdA_fr (k := 9) (j := 0) gq30 cs11 t_p0 (κ' := 59) rfl rfl rfl
                              have w10772 : rdA s11 p0 9 0 = mm_I s11 q17 ((0 : Int32)).toNatClampNeg := rdA_eq eq17
                              have w10771 : rdA s11 p0 9 0 = rdA q2.2 p0 9 0 := by rw [← es11]; exact rdA_k cq2 t_p0 (κ' := 59) rfl tq5 (by decide)
                              have w10773 := rdA_fr (k := 9) (j := 0) gq2 c0 t_p0 (κ' := 59) rfl rfl rfl
                              have w10777 : rdA q2.2 p0 10 0 = mm_I q2.2 q5 ((0 : Int32)).toNatClampNeg := rdA_eq eq5
                              have w10776 := rdA_fr (k := 10) (j := 0) gq2 c0 t_p0 (κ' := 60) rfl rfl rfl
                              have a10778 := zi_and p2 8 (by decide)
                              exact sw_some ⟨cq30, fq30, (by (try simp only [zp, zo, zq] at u5318 xq2 h5319 xq12 h5332 xq14 a5352 u5353 h5354 h5355 h8082 h9318 h9573 a9828 h9829 h10074 h10319 w10564 w10565 r10566 r10567 r10568 h10569 h10589 h10709 h10754 w10755 w10756 w10758 w10760 w10759 w10761 w10763 w10764 w10766 w10765 w10768 w10769 w10770 w10772 w10771 w10773 w10777 w10776 a10778 ⊢) <;> (try simp only [zz, Int32.reduceToInt, ne_eq] at u5318 xq2 h5319 xq12 h5332 xq14 a5352 u5353 h5354 h5355 h8082 h9318 h9573 a9828 h9829 h10074 h10319 w10564 w10565 r10566 r10567 r10568 h10569 h10589 h10709 h10754 w10755 w10756 w10758 w10760 w10759 w10761 w10763 w10764 w10766 w10765 w10768 w10769 w10770 w10772 w10771 w10773 w10777 w10776 a10778 ⊢) <;> (try simp (disch := omega) only [zb] at u5318 xq2 h5319 xq12 h5332 xq14 a5352 u5353 h5354 h5355 h8082 h9318 h9573 a9828 h9829 h10074 h10319 w10564 w10565 r10566 r10567 r10568 h10569 h10589 h10709 h10754 w10755 w10756 w10758 w10760 w10759 w10761 w10763 w10764 w10766 w10765 w10768 w10769 w10770 w10772 w10771 w10773 w10777 w10776 a10778 ⊢) <;> first | omega | ((try simp (disch := omega) only [zb] at u5318 xq2 h5319 xq12 h5332 xq14 a5352 u5353 h5354 h5355 h8082 h9318 h9573 a9828 h9829 h10074 h10319 w10564 w10565 r10566 r10567 r10568 h10569 h10589 h10709 h10754 w10755 w10756 w10758 w10760 w10759 w10761 w10763 w10764 w10766 w10765 w10768 w10769 w10770 w10772 w10771 w10773 w10777 w10776 a10778 ⊢) <;> omega))⟩
                            · refine sw_sh (ci_sh cq30 t_p0 rfl) ?_
                              refine sw_on (sX9_put cq30 t_p0 (by (try simp only [zp, zo, zq] at u5318 xq2 h5319 xq12 h5332 xq14 a5352 u5353 h5354 h5355 h8082 h9318 h9573 a9828 h9829 h10074 h10319 w10564 w10565 r10566 r10567 r10568 h10569 h10589 h10709 h10754 ⊢) <;> (try simp only [zz, Int32.reduceToInt, ne_eq] at u5318 xq2 h5319 xq12 h5332 xq14 a5352 u5353 h5354 h5355 h8082 h9318 h9573 a9828 h9829 h10074 h10319 w10564 w10565 r10566 r10567 r10568 h10569 h10589 h10709 h10754 ⊢) <;> (try simp (disch := omega) only [zb] at u5318 xq2 h5319 xq12 h5332 xq14 a5352 u5353 h5354 h5355 h8082 h9318 h9573 a9828 h9829 h10074 h10319 w10564 w10565 r10566 r10567 r10568 h10569 h10589 h10709 h10754 ⊢) <;> first | omega | ((try simp (disch := omega) only [zb] at u5318 xq2 h5319 xq12 h5332 xq14 a5352 u5353 h5354 h5355 h8082 h9318 h9573 a9828 h9829 h10074 h10319 w10564 w10565 r10566 r10567 r10568 h10569 h10589 h10709 h10754 ⊢) <;> omega)) ) ?_
                              intro q28 hqq28
                              obtain ⟨cq28, gq28, xq28⟩ := hqq28
                              have fq28 := fr_trans fq30 gq28 rfl
                              have w10779 := (gq28.2.2 _ _ t_p0 0 rfl).1
                              have w10780 := (gq30.2.2 _ _ t_p0 0 rfl).1
                              have w10781 : mm_I s11 p0 0 = mm_I q2.2 p0 0 := by rw [← es11]; exact rd_k t_p0 tq5 (by decide)
                              have w10783 := rdA_fr (k := 9) (j := 1) gq28 cq30 t_p0 (κ' := 59) rfl rfl rfl
                              have w10784 := rdA_fr (k := 9) (j := 1) gq30 cs11 t_p0 (κ' := 59) rfl rfl rfl
                              have w10786 : rdA s11 p0 9 1 = mm_I s11 q17 ((1 : Int32)).toNatClampNeg := rdA_eq eq17
                              have w10785 : rdA s11 p0 9 1 = rdA q2.2 p0 9 1 := by rw [← es11]; exact rdA_k cq2 t_p0 (κ' := 59) rfl tq5 (by decide)
                              have w10787 := rdA_fr (k := 9) (j := 1) gq2 c0 t_p0 (κ' := 59) rfl rfl rfl
                              have w10789 := rdA_fr (k := 10) (j := 1) gq28 cq30 t_p0 (κ' := 60) rfl rfl rfl
                              have w10790 := rdA_fr (k := 10) (j := 1) gq30 cs11 t_p0 (κ' := 60) rfl rfl rfl
                              have w10791 : rdA s11 p0 10 1 = rdA q2.2 p0 10 1 := by rw [← es11]; exact rdA_j (by decide)
                              have w10793 : rdA q2.2 p0 10 1 = mm_I q2.2 q5 ((1 : Int32)).toNatClampNeg := rdA_eq eq5
                              have w10792 := rdA_fr (k := 10) (j := 1) gq2 c0 t_p0 (κ' := 60) rfl rfl rfl
                              have w10795 := rdA_fr (k := 10) (j := 0) gq28 cq30 t_p0 (κ' := 60) rfl rfl rfl
                              have w10796 := rdA_fr (k := 10) (j := 0) gq30 cs11 t_p0 (κ' := 60) rfl rfl rfl
                              have w10797 : rdA s11 p0 10 0 = -1 := by rw [← es11]; exact rdA_self eq5
                              have w10798 := rdA_fr (k := 9) (j := 0) gq28 cq30 t_p0 (κ' := 59) rfl rfl rfl
                              have w10799 := rdA_fr (k := 9) (j := 0) gq30 cs11 t_p0 (κ' := 59) rfl rfl rfl
                              have w10801 : rdA s11 p0 9 0 = mm_I s11 q17 ((0 : Int32)).toNatClampNeg := rdA_eq eq17
                              have w10800 : rdA s11 p0 9 0 = rdA q2.2 p0 9 0 := by rw [← es11]; exact rdA_k cq2 t_p0 (κ' := 59) rfl tq5 (by decide)
                              have w10802 := rdA_fr (k := 9) (j := 0) gq2 c0 t_p0 (κ' := 59) rfl rfl rfl
                              have w10806 : rdA q2.2 p0 10 0 = mm_I q2.2 q5 ((0 : Int32)).toNatClampNeg := rdA_eq eq5
                              have w10805 := rdA_fr (k := 10) (j := 0) gq2 c0 t_p0 (κ' := 60) rfl rfl rfl
                              have a10807 := zi_and p2 8 (by decide)
                              exact sw_some ⟨cq28, fq28, (by (try simp only [zp, zo, zq] at u5318 xq2 h5319 xq12 h5332 xq14 a5352 u5353 h5354 h5355 h8082 h9318 h9573 a9828 h9829 h10074 h10319 w10564 w10565 r10566 r10567 r10568 h10569 h10589 h10709 h10754 w10779 w10780 w10781 w10783 w10784 w10786 w10785 w10787 w10789 w10790 w10791 w10793 w10792 w10795 w10796 w10797 w10798 w10799 w10801 w10800 w10802 w10806 w10805 a10807 ⊢) <;> (try simp only [zz, Int32.reduceToInt, ne_eq] at u5318 xq2 h5319 xq12 h5332 xq14 a5352 u5353 h5354 h5355 h8082 h9318 h9573 a9828 h9829 h10074 h10319 w10564 w10565 r10566 r10567 r10568 h10569 h10589 h10709 h10754 w10779 w10780 w10781 w10783 w10784 w10786 w10785 w10787 w10789 w10790 w10791 w10793 w10792 w10795 w10796 w10797 w10798 w10799 w10801 w10800 w10802 w10806 w10805 a10807 ⊢) <;> (try simp (disch := omega) only [zb] at u5318 xq2 h5319 xq12 h5332 xq14 a5352 u5353 h5354 h5355 h8082 h9318 h9573 a9828 h9829 h10074 h10319 w10564 w10565 r10566 r10567 r10568 h10569 h10589 h10709 h10754 w10779 w10780 w10781 w10783 w10784 w10786 w10785 w10787 w10789 w10790 w10791 w10793 w10792 w10795 w10796 w10797 w10798 w10799 w10801 w10800 w10802 w10806 w10805 a10807 ⊢) <;> first | omega | ((try simp (disch := omega) only [zb] at u5318 xq2 h5319 xq12 h5332 xq14 a5352 u5353 h5354 h5355 h8082 h9318 h9573 a9828 h9829 h10074 h10319 w10564 w10565 r10566 r10567 r10568 h10569 h10589 h10709 h10754 w10779 w10780 w10781 w10783 w10784 w10786 w10785 w10787 w10789 w10790 w10791 w10793 w10792 w10795 w10796 w10797 w10798 w10799 w10801 w10800 w10802 w10806 w10805 a10807 ⊢) <;> omega))⟩
      · refine sw_ite (fun h10808 => ?_) (fun h10808 => ?_)
        · have w10809 : mm_I s11 p0 0 = mm_I q2.2 p0 0 := by rw [← es11]; exact rd_k t_p0 tq5 (by decide)
          have w10811 : rdA s11 p0 9 1 = rdA q2.2 p0 9 1 := by rw [← es11]; exact rdA_k cq2 t_p0 (κ' := 59) rfl tq5 (by decide)
          have w10812 := rdA_fr (k := 9) (j := 1) gq2 c0 t_p0 (κ' := 59) rfl rfl rfl
          have w10814 : rdA s11 p0 10 1 = rdA q2.2 p0 10 1 := by rw [← es11]; exact rdA_j (by decide)
          have w10816 : rdA q2.2 p0 10 1 = mm_I q2.2 q5 ((1 : Int32)).toNatClampNeg := rdA_eq eq5
          have w10815 := rdA_fr (k := 10) (j := 1) gq2 c0 t_p0 (κ' := 60) rfl rfl rfl
          have w10818 : rdA s11 p0 10 0 = -1 := by rw [← es11]; exact rdA_self eq5
          have w10819 : rdA s11 p0 9 0 = rdA q2.2 p0 9 0 := by rw [← es11]; exact rdA_k cq2 t_p0 (κ' := 59) rfl tq5 (by decide)
          have w10820 := rdA_fr (k := 9) (j := 0) gq2 c0 t_p0 (κ' := 59) rfl rfl rfl
          have w10824 : rdA q2.2 p0 10 0 = mm_I q2.2 q5 ((0 : Int32)).toNatClampNeg := rdA_eq eq5
          have w10823 := rdA_fr (k := 10) (j := 0) gq2 c0 t_p0 (κ' := 60) rfl rfl rfl
          have a10825 := zi_and p3 127 (by decide)
          have a10826 := zi_and p2 8 (by decide)
          exact sw_some ⟨cs11, fs11, (by (try simp only [zp, zo, zq] at u5318 xq2 h5319 xq12 h5332 xq14 a5352 u5353 h5354 h10808 w10809 w10811 w10812 w10814 w10816 w10815 w10818 w10819 w10820 w10824 w10823 a10825 a10826 ⊢) <;> (try simp only [zz, Int32.reduceToInt, ne_eq] at u5318 xq2 h5319 xq12 h5332 xq14 a5352 u5353 h5354 h10808 w10809 w10811 w10812 w10814 w10816 w10815 w10818 w10819 w10820 w10824 w10823 a10825 a10826 ⊢) <;> (try simp (disch := omega) only [zb] at u5318 xq2 h5319 xq12 h5332 xq14 a5352 u5353 h5354 h10808 w10809 w10811 w10812 w10814 w10816 w10815 w10818 w10819 w10820 w10824 w10823 a10825 a10826 ⊢) <;> first | omega | ((try simp (disch := omega) only [zb] at u5318 xq2 h5319 xq12 h5332 xq14 a5352 u5353 h5354 h10808 w10809 w10811 w10812 w10814 w10816 w10815 w10818 w10819 w10820 w10824 w10823 a10825 a10826 ⊢) <;> omega))⟩
        · have a10827 := zi_and p3 127 (by decide)
          refine sw_ite (fun h10828 => ?_) (fun h10828 => ?_)
          · have w10829 := (gq2.2.2 _ _ tq5 ((0 : Int32).toNatClampNeg) rfl).1
            refine sw_ite (fun h10830 => ?_) (fun h10830 => ?_)
            · have w10831 : mm_I s11 p0 0 = mm_I q2.2 p0 0 := by rw [← es11]; exact rd_k t_p0 tq5 (by decide)
              have w10833 : rdA s11 p0 9 1 = rdA q2.2 p0 9 1 := by rw [← es11]; exact rdA_k cq2 t_p0 (κ' := 59) rfl tq5 (by decide)
              have w10834 := rdA_fr (k := 9) (j := 1) gq2 c0 t_p0 (κ' := 59) rfl rfl rfl
              have w10836 : rdA s11 p0 10 1 = rdA q2.2 p0 10 1 := by rw [← es11]; exact rdA_j (by decide)
              have w10838 : rdA q2.2 p0 10 1 = mm_I q2.2 q5 ((1 : Int32)).toNatClampNeg := rdA_eq eq5
              have w10837 := rdA_fr (k := 10) (j := 1) gq2 c0 t_p0 (κ' := 60) rfl rfl rfl
              have w10840 : rdA s11 p0 10 0 = -1 := by rw [← es11]; exact rdA_self eq5
              have w10841 : rdA s11 p0 9 0 = rdA q2.2 p0 9 0 := by rw [← es11]; exact rdA_k cq2 t_p0 (κ' := 59) rfl tq5 (by decide)
              have w10842 := rdA_fr (k := 9) (j := 0) gq2 c0 t_p0 (κ' := 59) rfl rfl rfl
              have w10846 : rdA q2.2 p0 10 0 = mm_I q2.2 q5 ((0 : Int32)).toNatClampNeg := rdA_eq eq5
              have w10845 := rdA_fr (k := 10) (j := 0) gq2 c0 t_p0 (κ' := 60) rfl rfl rfl
              have a10847 := zi_and p2 8 (by decide)
              exact sw_some ⟨cs11, fs11, (by (try simp only [zp, zo, zq] at u5318 xq2 h5319 xq12 h5332 xq14 a5352 u5353 h5354 h10808 a10827 h10828 w10829 h10830 w10831 w10833 w10834 w10836 w10838 w10837 w10840 w10841 w10842 w10846 w10845 a10847 ⊢) <;> (try simp only [zz, Int32.reduceToInt, ne_eq] at u5318 xq2 h5319 xq12 h5332 xq14 a5352 u5353 h5354 h10808 a10827 h10828 w10829 h10830 w10831 w10833 w10834 w10836 w10838 w10837 w10840 w10841 w10842 w10846 w10845 a10847 ⊢) <;> (try simp (disch := omega) only [zb] at u5318 xq2 h5319 xq12 h5332 xq14 a5352 u5353 h5354 h10808 a10827 h10828 w10829 h10830 w10831 w10833 w10834 w10836 w10838 w10837 w10840 w10841 w10842 w10846 w10845 a10847 ⊢) <;> first | omega | ((try simp (disch := omega) only [zb] at u5318 xq2 h5319 xq12 h5332 xq14 a5352 u5353 h5354 h10808 a10827 h10828 w10829 h10830 w10831 w10833 w10834 w10836 w10838 w10837 w10840 w10841 w10842 w10846 w10845 a10847 ⊢) <;> omega))⟩
            · refine sw_sh (ci_sh cs11 t_p0 rfl) ?_
              have v10848 : mm_R s11 p0 10 = some q5 := (by rw [← es11]; exact eq5)
              refine sw_onS v10848 ?_
              refine sw_ar (ci_sh cs11 tq5 rfl) ?_
              refine sw_ib (by (try simp only [zp, zo, zq] at u5318 xq2 h5319 xq12 h5332 xq14 a5352 u5353 h5354 h10808 a10827 h10828 w10829 h10830 ⊢) <;> (try simp only [zz, Int32.reduceToInt, ne_eq] at u5318 xq2 h5319 xq12 h5332 xq14 a5352 u5353 h5354 h10808 a10827 h10828 w10829 h10830 ⊢) <;> (try simp (disch := omega) only [zb] at u5318 xq2 h5319 xq12 h5332 xq14 a5352 u5353 h5354 h10808 a10827 h10828 w10829 h10830 ⊢) <;> first | omega | ((try simp (disch := omega) only [zb] at u5318 xq2 h5319 xq12 h5332 xq14 a5352 u5353 h5354 h10808 a10827 h10828 w10829 h10830 ⊢) <;> omega)) ?_
              have cs43 := ci_wI cs11 tq5 (j := (0 : Int32).toNatClampNeg) (v := (128 * (p2 &&& 127)) + (p3 &&& 127)) (kr_n rfl)
              have fs43 := fr_wI fs11 tq5 (j := (0 : Int32).toNatClampNeg) (v := (128 * (p2 &&& 127)) + (p3 &&& 127)) rfl
              refine sw_let (fun s43 es43 => ?_)
              rw [es43] at cs43 fs43
              have a10849 := zi_and (p2 &&& 127) 8 (by decide)
              refine sw_ite (fun h10850 => ?_) (fun h10850 => ?_)
              · unfold fX9_pair_131
                refine sw_sh (ci_sh cs43 t_p0 rfl) ?_
                obtain ⟨q46, eq46, tq46⟩ := ci_ref cs43 t_p0 9 (κ' := 59) rfl
                refine sw_onS eq46 ?_
                refine sw_ar (ci_sh cs43 tq46 rfl) ?_
                refine sw_ib (by (try simp only [zp, zo, zq] at u5318 xq2 h5319 xq12 h5332 xq14 a5352 u5353 h5354 h10808 a10827 h10828 w10829 h10830 a10849 h10850 ⊢) <;> (try simp only [zz, Int32.reduceToInt, ne_eq] at u5318 xq2 h5319 xq12 h5332 xq14 a5352 u5353 h5354 h10808 a10827 h10828 w10829 h10830 a10849 h10850 ⊢) <;> (try simp (disch := omega) only [zb] at u5318 xq2 h5319 xq12 h5332 xq14 a5352 u5353 h5354 h10808 a10827 h10828 w10829 h10830 a10849 h10850 ⊢) <;> first | omega | ((try simp (disch := omega) only [zb] at u5318 xq2 h5319 xq12 h5332 xq14 a5352 u5353 h5354 h10808 a10827 h10828 w10829 h10830 a10849 h10850 ⊢) <;> omega)) ?_
                have cs49 := ci_wI cs43 tq46 (j := ((0 : Int32)).toNatClampNeg) (v := (2 * (0 : Int32)) + (0 : Int32)) (kr_s (lo := (-1)) (hi := 3) rfl (by (try simp only [zp, zo, zq] at u5318 xq2 h5319 xq12 h5332 xq14 a5352 u5353 h5354 h10808 a10827 h10828 w10829 h10830 a10849 h10850 ⊢) <;> (try simp only [zz, Int32.reduceToInt, ne_eq] at u5318 xq2 h5319 xq12 h5332 xq14 a5352 u5353 h5354 h10808 a10827 h10828 w10829 h10830 a10849 h10850 ⊢) <;> (try simp (disch := omega) only [zb] at u5318 xq2 h5319 xq12 h5332 xq14 a5352 u5353 h5354 h10808 a10827 h10828 w10829 h10830 a10849 h10850 ⊢) <;> first | omega | ((try simp (disch := omega) only [zb] at u5318 xq2 h5319 xq12 h5332 xq14 a5352 u5353 h5354 h10808 a10827 h10828 w10829 h10830 a10849 h10850 ⊢) <;> omega)))
                have fs49 := fr_wI fs43 tq46 (j := ((0 : Int32)).toNatClampNeg) (v := (2 * (0 : Int32)) + (0 : Int32)) rfl
                refine sw_let (fun s49 es49 => ?_)
                rw [es49] at cs49 fs49
                refine sw_on (sX9_code cs49 t_p0 (by (try simp only [zp, zo, zq] at u5318 xq2 h5319 xq12 h5332 xq14 a5352 u5353 h5354 h10808 a10827 h10828 w10829 h10830 a10849 h10850 ⊢) <;> (try simp only [zz, Int32.reduceToInt, ne_eq] at u5318 xq2 h5319 xq12 h5332 xq14 a5352 u5353 h5354 h10808 a10827 h10828 w10829 h10830 a10849 h10850 ⊢) <;> (try simp (disch := omega) only [zb] at u5318 xq2 h5319 xq12 h5332 xq14 a5352 u5353 h5354 h10808 a10827 h10828 w10829 h10830 a10849 h10850 ⊢) <;> first | omega | ((try simp (disch := omega) only [zb] at u5318 xq2 h5319 xq12 h5332 xq14 a5352 u5353 h5354 h10808 a10827 h10828 w10829 h10830 a10849 h10850 ⊢) <;> omega)) (by (try simp only [zp, zo, zq] at u5318 xq2 h5319 xq12 h5332 xq14 a5352 u5353 h5354 h10808 a10827 h10828 w10829 h10830 a10849 h10850 ⊢) <;> (try simp only [zz, Int32.reduceToInt, ne_eq] at u5318 xq2 h5319 xq12 h5332 xq14 a5352 u5353 h5354 h10808 a10827 h10828 w10829 h10830 a10849 h10850 ⊢) <;> (try simp (disch := omega) only [zb] at u5318 xq2 h5319 xq12 h5332 xq14 a5352 u5353 h5354 h10808 a10827 h10828 w10829 h10830 a10849 h10850 ⊢) <;> first | omega | ((try simp (disch := omega) only [zb] at u5318 xq2 h5319 xq12 h5332 xq14 a5352 u5353 h5354 h10808 a10827 h10828 w10829 h10830 a10849 h10850 ⊢) <;> omega)) ) ?_
                intro q50 hqq50
                obtain ⟨cq50, gq50, xq50⟩ := hqq50
                have fq50 := fr_trans fs49 gq50 rfl
                have w10851 := (gq50.2.2 _ _ t_p0 0 rfl).1
                have w10852 : mm_I s49 p0 0 = mm_I s43 p0 0 := by rw [← es49]; exact rd_k t_p0 tq46 (by decide)
                have w10853 : mm_I s43 p0 0 = mm_I s11 p0 0 := by rw [← es43]; exact rd_k t_p0 tq5 (by decide)
                have w10854 : mm_I s11 p0 0 = mm_I q2.2 p0 0 := by rw [← es11]; exact rd_k t_p0 tq5 (by decide)
                have w10856 := rdA_fr (k := 9) (j := 1) gq50 cs49 t_p0 (κ' := 59) rfl rfl rfl
                have w10857 : rdA s49 p0 9 1 = rdA s43 p0 9 1 := by rw [← es49]; exact rdA_j (by decide)
                have w10859 : rdA s43 p0 9 1 = mm_I s43 q46 ((1 : Int32)).toNatClampNeg := rdA_eq eq46
                have w10858 : rdA s43 p0 9 1 = rdA s11 p0 9 1 := by rw [← es43]; exact rdA_k cs11 t_p0 (κ' := 59) rfl tq5 (by decide)
                have w10860 : rdA s11 p0 9 1 = rdA q2.2 p0 9 1 := by rw [← es11]; exact rdA_k cq2 t_p0 (κ' := 59) rfl tq5 (by decide)
                have w10861 := rdA_fr (k := 9) (j := 1) gq2 c0 t_p0 (κ' := 59) rfl rfl rfl
                have w10863 := rdA_fr (k := 10) (j := 1) gq50 cs49 t_p0 (κ' := 60) rfl rfl rfl
                have w10864 : rdA s49 p0 10 1 = rdA s43 p0 10 1 := by rw [← es49]; exact rdA_k cs43 t_p0 (κ' := 60) rfl tq46 (by decide)
                have w10865 : rdA s43 p0 10 1 = rdA s11 p0 10 1 := by rw [← es43]; exact rdA_j (by decide)
                have w10867 : rdA s11 p0 10 1 = mm_I s11 q5 ((1 : Int32)).toNatClampNeg := rdA_eq v10848
                have w10866 : rdA s11 p0 10 1 = rdA q2.2 p0 10 1 := by rw [← es11]; exact rdA_j (by decide)
                have w10869 : rdA q2.2 p0 10 1 = mm_I q2.2 q5 ((1 : Int32)).toNatClampNeg := rdA_eq eq5
                have w10868 := rdA_fr (k := 10) (j := 1) gq2 c0 t_p0 (κ' := 60) rfl rfl rfl
                have w10871 := rdA_fr (k := 10) (j := 0) gq50 cs49 t_p0 (κ' := 60) rfl rfl rfl
                have w10872 : rdA s49 p0 10 0 = rdA s43 p0 10 0 := by rw [← es49]; exact rdA_k cs43 t_p0 (κ' := 60) rfl tq46 (by decide)
                have w10873 : rdA s43 p0 10 0 = (128 * (p2 &&& 127)) + (p3 &&& 127) := by rw [← es43]; exact rdA_self v10848
                have w10874 := rdA_fr (k := 9) (j := 0) gq50 cs49 t_p0 (κ' := 59) rfl rfl rfl
                have w10875 : rdA s49 p0 9 0 = (2 * (0 : Int32)) + (0 : Int32) := by rw [← es49]; exact rdA_self eq46
                have w10878 : rdA s43 p0 9 0 = mm_I s43 q46 ((0 : Int32)).toNatClampNeg := rdA_eq eq46
                have w10877 : rdA s43 p0 9 0 = rdA s11 p0 9 0 := by rw [← es43]; exact rdA_k cs11 t_p0 (κ' := 59) rfl tq5 (by decide)
                have w10879 : rdA s11 p0 9 0 = rdA q2.2 p0 9 0 := by rw [← es11]; exact rdA_k cq2 t_p0 (κ' := 59) rfl tq5 (by decide)
                have w10880 := rdA_fr (k := 9) (j := 0) gq2 c0 t_p0 (κ' := 59) rfl rfl rfl
                have w10883 : rdA q2.2 p0 10 0 = mm_I q2.2 q5 ((0 : Int32)).toNatClampNeg := rdA_eq eq5
                have w10882 := rdA_fr (k := 10) (j := 0) gq2 c0 t_p0 (κ' := 60) rfl rfl rfl
                have w10885 : rdA s11 p0 10 0 = mm_I s11 q5 ((0 : Int32)).toNatClampNeg := rdA_eq v10848
                have w10884 : rdA s11 p0 10 0 = -1 := by rw [← es11]; exact rdA_self eq5
                have a10886 := zi_and p2 8 (by decide)
                exact sw_some ⟨cq50, fq50, (by (try simp only [zp, zo, zq] at u5318 xq2 h5319 xq12 h5332 xq14 a5352 u5353 h5354 h10808 a10827 h10828 w10829 h10830 a10849 h10850 w10851 w10852 w10853 w10854 w10856 w10857 w10859 w10858 w10860 w10861 w10863 w10864 w10865 w10867 w10866 w10869 w10868 w10871 w10872 w10873 w10874 w10875 w10878 w10877 w10879 w10880 w10883 w10882 w10885 w10884 a10886 ⊢) <;> (try simp only [zz, Int32.reduceToInt, ne_eq] at u5318 xq2 h5319 xq12 h5332 xq14 a5352 u5353 h5354 h10808 a10827 h10828 w10829 h10830 a10849 h10850 w10851 w10852 w10853 w10854 w10856 w10857 w10859 w10858 w10860 w10861 w10863 w10864 w10865 w10867 w10866 w10869 w10868 w10871 w10872 w10873 w10874 w10875 w10878 w10877 w10879 w10880 w10883 w10882 w10885 w10884 a10886 ⊢) <;> (try simp (disch := omega) only [zb] at u5318 xq2 h5319 xq12 h5332 xq14 a5352 u5353 h5354 h10808 a10827 h10828 w10829 h10830 a10849 h10850 w10851 w10852 w10853 w10854 w10856 w10857 w10859 w10858 w10860 w10861 w10863 w10864 w10865 w10867 w10866 w10869 w10868 w10871 w10872 w10873 w10874 w10875 w10878 w10877 w10879 w10880 w10883 w10882 w10885 w10884 a10886 ⊢) <;> first | omega | ((try simp (disch := omega) only [zb] at u5318 xq2 h5319 xq12 h5332 xq14 a5352 u5353 h5354 h10808 a10827 h10828 w10829 h10830 a10849 h10850 w10851 w10852 w10853 w10854 w10856 w10857 w10859 w10858 w10860 w10861 w10863 w10864 w10865 w10867 w10866 w10869 w10868 w10871 w10872 w10873 w10874 w10875 w10878 w10877 w10879 w10880 w10883 w10882 w10885 w10884 a10886 ⊢) <;> omega))⟩
              · unfold fX9_pair_131
                refine sw_sh (ci_sh cs43 t_p0 rfl) ?_
                obtain ⟨q46, eq46, tq46⟩ := ci_ref cs43 t_p0 9 (κ' := 59) rfl
                refine sw_onS eq46 ?_
                refine sw_ar (ci_sh cs43 tq46 rfl) ?_
                refine sw_ib (by (try simp only [zp, zo, zq] at u5318 xq2 h5319 xq12 h5332 xq14 a5352 u5353 h5354 h10808 a10827 h10828 w10829 h10830 a10849 h10850 ⊢) <;> (try simp only [zz, Int32.reduceToInt, ne_eq] at u5318 xq2 h5319 xq12 h5332 xq14 a5352 u5353 h5354 h10808 a10827 h10828 w10829 h10830 a10849 h10850 ⊢) <;> (try simp (disch := omega) only [zb] at u5318 xq2 h5319 xq12 h5332 xq14 a5352 u5353 h5354 h10808 a10827 h10828 w10829 h10830 a10849 h10850 ⊢) <;> first | omega | ((try simp (disch := omega) only [zb] at u5318 xq2 h5319 xq12 h5332 xq14 a5352 u5353 h5354 h10808 a10827 h10828 w10829 h10830 a10849 h10850 ⊢) <;> omega)) ?_
                have cs49 := ci_wI cs43 tq46 (j := ((0 : Int32)).toNatClampNeg) (v := (2 * (0 : Int32)) + (1 : Int32)) (kr_s (lo := (-1)) (hi := 3) rfl (by (try simp only [zp, zo, zq] at u5318 xq2 h5319 xq12 h5332 xq14 a5352 u5353 h5354 h10808 a10827 h10828 w10829 h10830 a10849 h10850 ⊢) <;> (try simp only [zz, Int32.reduceToInt, ne_eq] at u5318 xq2 h5319 xq12 h5332 xq14 a5352 u5353 h5354 h10808 a10827 h10828 w10829 h10830 a10849 h10850 ⊢) <;> (try simp (disch := omega) only [zb] at u5318 xq2 h5319 xq12 h5332 xq14 a5352 u5353 h5354 h10808 a10827 h10828 w10829 h10830 a10849 h10850 ⊢) <;> first | omega | ((try simp (disch := omega) only [zb] at u5318 xq2 h5319 xq12 h5332 xq14 a5352 u5353 h5354 h10808 a10827 h10828 w10829 h10830 a10849 h10850 ⊢) <;> omega)))
                have fs49 := fr_wI fs43 tq46 (j := ((0 : Int32)).toNatClampNeg) (v := (2 * (0 : Int32)) + (1 : Int32)) rfl
                refine sw_let (fun s49 es49 => ?_)
                rw [es49] at cs49 fs49
                refine sw_on (sX9_code cs49 t_p0 (by (try simp only [zp, zo, zq] at u5318 xq2 h5319 xq12 h5332 xq14 a5352 u5353 h5354 h10808 a10827 h10828 w10829 h10830 a10849 h10850 ⊢) <;> (try simp only [zz, Int32.reduceToInt, ne_eq] at u5318 xq2 h5319 xq12 h5332 xq14 a5352 u5353 h5354 h10808 a10827 h10828 w10829 h10830 a10849 h10850 ⊢) <;> (try simp (disch := omega) only [zb] at u5318 xq2 h5319 xq12 h5332 xq14 a5352 u5353 h5354 h10808 a10827 h10828 w10829 h10830 a10849 h10850 ⊢) <;> first | omega | ((try simp (disch := omega) only [zb] at u5318 xq2 h5319 xq12 h5332 xq14 a5352 u5353 h5354 h10808 a10827 h10828 w10829 h10830 a10849 h10850 ⊢) <;> omega)) (by (try simp only [zp, zo, zq] at u5318 xq2 h5319 xq12 h5332 xq14 a5352 u5353 h5354 h10808 a10827 h10828 w10829 h10830 a10849 h10850 ⊢) <;> (try simp only [zz, Int32.reduceToInt, ne_eq] at u5318 xq2 h5319 xq12 h5332 xq14 a5352 u5353 h5354 h10808 a10827 h10828 w10829 h10830 a10849 h10850 ⊢) <;> (try simp (disch := omega) only [zb] at u5318 xq2 h5319 xq12 h5332 xq14 a5352 u5353 h5354 h10808 a10827 h10828 w10829 h10830 a10849 h10850 ⊢) <;> first | omega | ((try simp (disch := omega) only [zb] at u5318 xq2 h5319 xq12 h5332 xq14 a5352 u5353 h5354 h10808 a10827 h10828 w10829 h10830 a10849 h10850 ⊢) <;> omega)) ) ?_
                intro q50 hqq50
                obtain ⟨cq50, gq50, xq50⟩ := hqq50
                have fq50 := fr_trans fs49 gq50 rfl
                have w10887 := (gq50.2.2 _ _ t_p0 0 rfl).1
                have w10888 : mm_I s49 p0 0 = mm_I s43 p0 0 := by rw [← es49]; exact rd_k t_p0 tq46 (by decide)
                have w10889 : mm_I s43 p0 0 = mm_I s11 p0 0 := by rw [← es43]; exact rd_k t_p0 tq5 (by decide)
                have w10890 : mm_I s11 p0 0 = mm_I q2.2 p0 0 := by rw [← es11]; exact rd_k t_p0 tq5 (by decide)
                have w10892 := rdA_fr (k := 9) (j := 1) gq50 cs49 t_p0 (κ' := 59) rfl rfl rfl
                have w10893 : rdA s49 p0 9 1 = rdA s43 p0 9 1 := by rw [← es49]; exact rdA_j (by decide)
                have w10895 : rdA s43 p0 9 1 = mm_I s43 q46 ((1 : Int32)).toNatClampNeg := rdA_eq eq46
                have w10894 : rdA s43 p0 9 1 = rdA s11 p0 9 1 := by rw [← es43]; exact rdA_k cs11 t_p0 (κ' := 59) rfl tq5 (by decide)
                have w10896 : rdA s11 p0 9 1 = rdA q2.2 p0 9 1 := by rw [← es11]; exact rdA_k cq2 t_p0 (κ' := 59) rfl tq5 (by decide)
                have w10897 := rdA_fr (k := 9) (j := 1) gq2 c0 t_p0 (κ' := 59) rfl rfl rfl
                have w10899 := rdA_fr (k := 10) (j := 1) gq50 cs49 t_p0 (κ' := 60) rfl rfl rfl
                have w10900 : rdA s49 p0 10 1 = rdA s43 p0 10 1 := by rw [← es49]; exact rdA_k cs43 t_p0 (κ' := 60) rfl tq46 (by decide)
                have w10901 : rdA s43 p0 10 1 = rdA s11 p0 10 1 := by rw [← es43]; exact rdA_j (by decide)
                have w10903 : rdA s11 p0 10 1 = mm_I s11 q5 ((1 : Int32)).toNatClampNeg := rdA_eq v10848
                have w10902 : rdA s11 p0 10 1 = rdA q2.2 p0 10 1 := by rw [← es11]; exact rdA_j (by decide)
                have w10905 : rdA q2.2 p0 10 1 = mm_I q2.2 q5 ((1 : Int32)).toNatClampNeg := rdA_eq eq5
                have w10904 := rdA_fr (k := 10) (j := 1) gq2 c0 t_p0 (κ' := 60) rfl rfl rfl
                have w10907 := rdA_fr (k := 10) (j := 0) gq50 cs49 t_p0 (κ' := 60) rfl rfl rfl
                have w10908 : rdA s49 p0 10 0 = rdA s43 p0 10 0 := by rw [← es49]; exact rdA_k cs43 t_p0 (κ' := 60) rfl tq46 (by decide)
                have w10909 : rdA s43 p0 10 0 = (128 * (p2 &&& 127)) + (p3 &&& 127) := by rw [← es43]; exact rdA_self v10848
                have w10910 := rdA_fr (k := 9) (j := 0) gq50 cs49 t_p0 (κ' := 59) rfl rfl rfl
                have w10911 : rdA s49 p0 9 0 = (2 * (0 : Int32)) + (1 : Int32) := by rw [← es49]; exact rdA_self eq46
                have w10914 : rdA s43 p0 9 0 = mm_I s43 q46 ((0 : Int32)).toNatClampNeg := rdA_eq eq46
                have w10913 : rdA s43 p0 9 0 = rdA s11 p0 9 0 := by rw [← es43]; exact rdA_k cs11 t_p0 (κ' := 59) rfl tq5 (by decide)
                have w10915 : rdA s11 p0 9 0 = rdA q2.2 p0 9 0 := by rw [← es11]; exact rdA_k cq2 t_p0 (κ' := 59) rfl tq5 (by decide)
                have w10916 := rdA_fr (k := 9) (j := 0) gq2 c0 t_p0 (κ' := 59) rfl rfl rfl
                have w10919 : rdA q2.2 p0 10 0 = mm_I q2.2 q5 ((0 : Int32)).toNatClampNeg := rdA_eq eq5
                have w10918 := rdA_fr (k := 10) (j := 0) gq2 c0 t_p0 (κ' := 60) rfl rfl rfl
                have w10921 : rdA s11 p0 10 0 = mm_I s11 q5 ((0 : Int32)).toNatClampNeg := rdA_eq v10848
                have w10920 : rdA s11 p0 10 0 = -1 := by rw [← es11]; exact rdA_self eq5
                have a10922 := zi_and p2 8 (by decide)
                exact sw_some ⟨cq50, fq50, (by (try simp only [zp, zo, zq] at u5318 xq2 h5319 xq12 h5332 xq14 a5352 u5353 h5354 h10808 a10827 h10828 w10829 h10830 a10849 h10850 w10887 w10888 w10889 w10890 w10892 w10893 w10895 w10894 w10896 w10897 w10899 w10900 w10901 w10903 w10902 w10905 w10904 w10907 w10908 w10909 w10910 w10911 w10914 w10913 w10915 w10916 w10919 w10918 w10921 w10920 a10922 ⊢) <;> (try simp only [zz, Int32.reduceToInt, ne_eq] at u5318 xq2 h5319 xq12 h5332 xq14 a5352 u5353 h5354 h10808 a10827 h10828 w10829 h10830 a10849 h10850 w10887 w10888 w10889 w10890 w10892 w10893 w10895 w10894 w10896 w10897 w10899 w10900 w10901 w10903 w10902 w10905 w10904 w10907 w10908 w10909 w10910 w10911 w10914 w10913 w10915 w10916 w10919 w10918 w10921 w10920 a10922 ⊢) <;> (try simp (disch := omega) only [zb] at u5318 xq2 h5319 xq12 h5332 xq14 a5352 u5353 h5354 h10808 a10827 h10828 w10829 h10830 a10849 h10850 w10887 w10888 w10889 w10890 w10892 w10893 w10895 w10894 w10896 w10897 w10899 w10900 w10901 w10903 w10902 w10905 w10904 w10907 w10908 w10909 w10910 w10911 w10914 w10913 w10915 w10916 w10919 w10918 w10921 w10920 a10922 ⊢) <;> first | omega | ((try simp (disch := omega) only [zb] at u5318 xq2 h5319 xq12 h5332 xq14 a5352 u5353 h5354 h10808 a10827 h10828 w10829 h10830 a10849 h10850 w10887 w10888 w10889 w10890 w10892 w10893 w10895 w10894 w10896 w10897 w10899 w10900 w10901 w10903 w10902 w10905 w10904 w10907 w10908 w10909 w10910 w10911 w10914 w10913 w10915 w10916 w10919 w10918 w10921 w10920 a10922 ⊢) <;> omega))⟩
          · have w10923 : mm_I s11 p0 0 = mm_I q2.2 p0 0 := by rw [← es11]; exact rd_k t_p0 tq5 (by decide)
            have w10925 : rdA s11 p0 9 1 = rdA q2.2 p0 9 1 := by rw [← es11]; exact rdA_k cq2 t_p0 (κ' := 59) rfl tq5 (by decide)
            have w10926 := rdA_fr (k := 9) (j := 1) gq2 c0 t_p0 (κ' := 59) rfl rfl rfl
            have w10928 : rdA s11 p0 10 1 = rdA q2.2 p0 10 1 := by rw [← es11]; exact rdA_j (by decide)
            have w10930 : rdA q2.2 p0 10 1 = mm_I q2.2 q5 ((1 : Int32)).toNatClampNeg := rdA_eq eq5
            have w10929 := rdA_fr (k := 10) (j := 1) gq2 c0 t_p0 (κ' := 60) rfl rfl rfl
            have w10932 : rdA s11 p0 10 0 = -1 := by rw [← es11]; exact rdA_self eq5
            have w10933 : rdA s11 p0 9 0 = rdA q2.2 p0 9 0 := by rw [← es11]; exact rdA_k cq2 t_p0 (κ' := 59) rfl tq5 (by decide)
            have w10934 := rdA_fr (k := 9) (j := 0) gq2 c0 t_p0 (κ' := 59) rfl rfl rfl
            have w10938 : rdA q2.2 p0 10 0 = mm_I q2.2 q5 ((0 : Int32)).toNatClampNeg := rdA_eq eq5
            have w10937 := rdA_fr (k := 10) (j := 0) gq2 c0 t_p0 (κ' := 60) rfl rfl rfl
            have a10939 := zi_and p2 8 (by decide)
            exact sw_some ⟨cs11, fs11, (by (try simp only [zp, zo, zq] at u5318 xq2 h5319 xq12 h5332 xq14 a5352 u5353 h5354 h10808 a10827 h10828 w10923 w10925 w10926 w10928 w10930 w10929 w10932 w10933 w10934 w10938 w10937 a10939 ⊢) <;> (try simp only [zz, Int32.reduceToInt, ne_eq] at u5318 xq2 h5319 xq12 h5332 xq14 a5352 u5353 h5354 h10808 a10827 h10828 w10923 w10925 w10926 w10928 w10930 w10929 w10932 w10933 w10934 w10938 w10937 a10939 ⊢) <;> (try simp (disch := omega) only [zb] at u5318 xq2 h5319 xq12 h5332 xq14 a5352 u5353 h5354 h10808 a10827 h10828 w10923 w10925 w10926 w10928 w10930 w10929 w10932 w10933 w10934 w10938 w10937 a10939 ⊢) <;> first | omega | ((try simp (disch := omega) only [zb] at u5318 xq2 h5319 xq12 h5332 xq14 a5352 u5353 h5354 h10808 a10827 h10828 w10923 w10925 w10926 w10928 w10930 w10929 w10932 w10933 w10934 w10938 w10937 a10939 ⊢) <;> omega))⟩
abbrev UX8_takeLetters_f1 : List Nat := [0, 20, 21]
