/-! an act of the law, whole -/
theorem sInv_le {x : Nat → Int → Int} {N N' : Int} (h : sInv x N) (hN : N ≤ N') : sInv x N' := ⟨h.1, h.2.1, Int.le_trans h.2.2 hN⟩
abbrev aT : Type := cSt × (Int → Int) × (Int → Int) × (Int → Int) × (Int → Int) × (Int → Int)
theorem kL_isActed_X7_pass : jKv mL_isActed 74 yX7_pass wsX7_pass rmX7_pass 1 := ⟨gL_isActed_X7_pass, ⟨_, _, _, _, rfl, by decide⟩, by decide +kernel, rfl, rfl, by decide⟩
theorem kL_isActed_L_tick : jKs mL_isActed 70 yL_tick wsL_tick rmL_tick 5 := ⟨gL_isActed_L_tick, ⟨_, _, _, _, rfl, by decide⟩, by decide +kernel, rfl, rfl, by decide⟩
theorem kL_isActed_L_isSet : jKs mL_isActed 90 yL_isSet wsL_isSet rmL_isSet 4 := ⟨gL_isActed_L_isSet, ⟨_, _, _, _, rfl, by decide⟩, by decide +kernel, rfl, rfl, by decide⟩
theorem kL_isActed_X7_empty : jKv mL_isActed 87 yX7_empty wsX7_empty rmX7_empty 1 := ⟨gL_isActed_X7_empty, ⟨_, _, _, _, rfl, by decide⟩, by decide +kernel, rfl, rfl, by decide⟩
theorem kL_isActed_X7_water : jKv mL_isActed 84 yX7_water wsX7_water rmX7_water 1 := ⟨gL_isActed_X7_water, ⟨_, _, _, _, rfl, by decide⟩, by decide +kernel, rfl, rfl, by decide⟩
theorem kL_isActed_X7_drop : jKv mL_isActed 81 yX7_drop wsX7_drop rmX7_drop 1 := ⟨gL_isActed_X7_drop, ⟨_, _, _, _, rfl, by decide⟩, by decide +kernel, rfl, rfl, by decide⟩
theorem kL_isActed_L_isRule : jKs mL_isActed 77 yL_isRule wsL_isRule rmL_isRule 4 := ⟨gL_isActed_L_isRule, ⟨_, _, _, _, rfl, by decide⟩, by decide +kernel, rfl, rfl, by decide⟩
theorem kL_isActed_X7_lay : jKv mL_isActed 67 yX7_lay wsX7_lay rmX7_lay 3 := ⟨gL_isActed_X7_lay, ⟨_, _, _, _, rfl, by decide⟩, by decide +kernel, rfl, rfl, by decide⟩
theorem kL_isActed_L_pack : jKs mL_isActed 9 yL_pack wsL_pack rmL_pack 3 := ⟨gL_isActed_L_pack, ⟨_, _, _, _, rfl, by decide⟩, by decide +kernel, rfl, rfl, by decide⟩
set_option maxRecDepth 100000 in
set_option maxHeartbeats 4000000 in
theorem c_L_isActed (E : jE) (ad qh : Nat → Nat → Nat) (S H : Nat → Nat → Int → Int) (P : Nat → Int → Int) (v : Int → Int) (ca ba na ua ea : Nat) (N : Int) (c b n u e : Int → Int) (w y : Int) (hk : KInv N S H P v c b n u e) (hN : N ≤ 59) (hw : 0 ≤ w ∧ w < 17) (hy : 0 ≤ y ∧ y < 2147483648) : jMX (T := aT) jT2 E yL_isActed wsL_isActed rmL_isActed [.ref (ad 7 0), .ref ca, .ref ba, .ref na, .ref ua, .ref ea, .int (jI w), .int (jI y)] (jFl [wEye E ad qh S H P v, wA E ca 48 c, wA E ba 60 b, wA E na 16 n, wA E ua 36 u, wA E ea 64 e]) (fun q => KInvC (N + 1) q.1 q.2.1 q.2.2.1 q.2.2.2.1 q.2.2.2.2.1 q.2.2.2.2.2) (fun _ => 1) (fun q => jFl [wEyeC E ad qh q.1, wA E ca 48 q.2.1, wA E ba 60 q.2.2.1, wA E na 16 q.2.2.2.1, wA E ua 36 q.2.2.2.2.1, wA E ea 64 q.2.2.2.2.2]) := by
  refine jMX_of (cc := cL_isActed) (maxL := 14) (ret := (some .boolean)) [(0, .ref (ad 7 0)), (1, .ref ca), (2, .ref ba), (3, .ref na), (4, .ref ua), (5, .ref ea), (6, .int (jI w)), (7, .int (jI y))] (by decide) rfl rfl (Nat.le_of_ble_eq_true rfl) (fun C hT => ?_)
  show jG mL_isActed E C (jQx (T := aT) E C (fun q => KInvC (N + 1) q.1 q.2.1 q.2.2.1 q.2.2.2.1 q.2.2.2.2.1 q.2.2.2.2.2) (fun _ => 1) (fun q => jFl [wEyeC E ad qh q.1, wA E ca 48 q.2.1, wA E ba 60 q.2.2.1, wA E na 16 q.2.2.2.1, wA E ua 36 q.2.2.2.2.1, wA E ea 64 q.2.2.2.2.2])) 0 0 0 [(0, .ref (ad 7 0)), (1, .ref ca), (2, .ref ba), (3, .ref na), (4, .ref ua), (5, .ref ea), (6, .int (jI w)), (7, .int (jI y))] [] (jFl [wEye E ad qh S H P v, wA E ca 48 c, wA E ba 60 b, wA E na 16 n, wA E ua 36 u, wA E ea 64 e])
  have hc0 := hk.1
  have hx : sOK (S 0) := hk.1.1 0
  have r2 : ∀ i, 0 ≤ S 0 2 i ∧ S 0 2 i ≤ 2 := hx 2
  have r20 := r2 0
  have r9 : 0 ≤ S 0 9 0 ∧ S 0 9 0 ≤ 8 := hx 9
  obtain ⟨c0, -, -⟩ := K_cup0 hk.2.2
  have s9 : n 9 = S 0 9 0 := hk.2.2.2.2.1.2.2.1
  have w8 := hk.2.2.2.2.1.2.1.1
  refine j_iload 6 2 dL_isActed_0 rfl rfl ?_
  refine j_bipush 4 dL_isActed_2 rfl (by decide) ?_
  refine j_icmp_ge 171 7 dL_isActed_4 rfl (by decide) (by omega) (by omega) (fun h_4 => ?_) (fun h_4 => ?_)
  · skip
    refine j_iload 6 173 dL_isActed_171 rfl rfl ?_
    refine j_bipush 175 dL_isActed_173 rfl (by decide) ?_
    refine j_icmp_ge 188 178 dL_isActed_175 rfl (by decide) (by omega) (by omega) (fun h_175 => ?_) (fun h_175 => ?_)
    · skip
      refine j_iload 6 190 dL_isActed_188 rfl rfl ?_
      refine j_bipush 192 dL_isActed_190 rfl (by decide) ?_
      refine j_icmp_ne 303 195 dL_isActed_192 rfl (by decide) (by omega) (by omega) (fun h_192 => ?_) (fun h_192 => ?_)
      · skip
        refine j_iload 6 305 dL_isActed_303 rfl rfl ?_
        refine j_bipush 307 dL_isActed_305 rfl (by decide) ?_
        refine j_icmp_ne 351 310 dL_isActed_307 rfl (by decide) (by omega) (by omega) (fun h_307 => ?_) (fun h_307 => ?_)
        · skip
          refine j_iload 6 353 dL_isActed_351 rfl rfl ?_
          refine j_bipush 355 dL_isActed_353 rfl (by decide) ?_
          refine j_icmp_ne 401 358 dL_isActed_355 rfl (by decide) (by omega) (by omega) (fun h_355 => ?_) (fun h_355 => ?_)
          · skip
            refine j_iload 6 403 dL_isActed_401 rfl rfl ?_
            refine j_bipush 405 dL_isActed_403 rfl (by decide) ?_
            refine j_icmp_ne 422 408 dL_isActed_405 rfl (by decide) (by omega) (by omega) (fun h_405 => ?_) (fun h_405 => ?_)
            · skip
              refine j_iconst 423 dL_isActed_422 rfl ?_
              refine j_iload 7 425 dL_isActed_423 rfl rfl ?_
              refine j_bipush 427 dL_isActed_425 rfl (by decide) ?_
              refine j_irem 428 dL_isActed_427 rfl (by omega) (by decide) ?_
              refine j_iadd 429 dL_isActed_428 rfl ?_
              refine j_istore 431 [_, _, _, _, _, _, _, _, _] dL_isActed_429 rfl (by decide) rfl ?_
              refine j_iconst 432 dL_isActed_431 rfl ?_
              refine j_istore 434 [_, _, _, _, _, _, _, _, _, _] dL_isActed_432 rfl (by decide) rfl ?_
              refine j_iconst 435 dL_isActed_434 rfl ?_
              refine j_istore 437 [_, _, _, _, _, _, _, _, _, _, _] dL_isActed_435 rfl (by decide) rfl ?_
              have key437 : ∀ (fu i : Nat) (c4 b4 n4 e4 : Int → Int), (1 + y % 6).toNat < i + fu → (i : Int) ≤ 1 + y % 6 → KRel 1 (sPass (S 0) i).1 c4 b4 n4 u e4 → jG mL_isActed E C (jQx (T := aT) E C (fun q => KInvC (N + 1) q.1 q.2.1 q.2.2.1 q.2.2.2.1 q.2.2.2.2.1 q.2.2.2.2.2) (fun _ => 1) (fun q => jFl [wEyeC E ad qh q.1, wA E ca 48 q.2.1, wA E ba 60 q.2.2.1, wA E na 16 q.2.2.2.1, wA E ua 36 q.2.2.2.2.1, wA E ea 64 q.2.2.2.2.2])) 0 0 437 [(0, .ref (ad 7 0)), (1, .ref ca), (2, .ref ba), (3, .ref na), (4, .ref ua), (5, .ref ea), (6, .int (jI w)), (7, .int (jI y)), (8, .int (jI (1 + y % 6))), (9, .int (jI (sPass (S 0) i).2)), (10, .int (jI (i : Int)))] [] (jFl [wEye E ad qh S H P v, wA E ca 48 c4, wA E ba 60 b4, wA E na 16 n4, wA E ua 36 u, wA E ea 64 e4]) := by
                intro fu
                induction fu with
                | zero => intro i c4 b4 n4 e4 h1 h5 hr4; exact absurd h1 (by omega)
                | succ fu ih =>
                  intro i c4 b4 n4 e4 h1 h5 hr4
                  refine j_iload 10 439 dL_isActed_437 rfl rfl ?_
                  refine j_iload 8 441 dL_isActed_439 rfl rfl ?_
                  refine j_icmp_ge 465 444 dL_isActed_441 rfl (by decide) (by omega) (by omega) (fun h_441 => ?_) (fun h_441 => ?_)
                  · skip
                    obtain ⟨⟨S1, H1, P1, v1⟩, e1, k1⟩ := A_pass (t := 1 + y % 6) hk.1 hk.2.1 (by omega) (by omega) (show KRel 1 (sPass (S 0) (1 + y % 6).toNat).1 c4 b4 n4 u e4 by rw [show (1 + y % 6).toNat = i by omega]; exact hr4)
                    rw [show (1 + y % 6).toNat = i by omega] at e1
                    refine j_aload_n 0 466 dL_isActed_465 rfl rfl ?_
                    refine j_iload 8 468 dL_isActed_466 rfl rfl ?_
                    refine j_callViB (wcs := [_]) (cs := [_]) 0 0 [0] 471 [_, _, _, _, _, _] (c_X7_pass E _ _ _ _ _ _ _ (by exact hc0) (by omega) (by exact sInv_le hk.2.1 (by omega))) (jFl_1 _) (jFl_1 _) rfl kL_isActed_X7_pass rfl rfl rfl rfl rfl rfl rfl (Nat.le_of_ble_eq_true rfl) (by decide) dL_isActed_468 rfl ?_
                    rw [e1]
                    change jG _ E C _ 0 0 471 _ (.int (jI (sPass (S 0) i).2) :: _) (jFl [wEye E ad qh S1 H1 P1 v1, wA E ca 48 c4, wA E ba 60 b4, wA E na 16 n4, wA E ua 36 u, wA E ea 64 e4])
                    refine j_iload 9 473 dL_isActed_471 rfl rfl ?_
                    refine j_eqn 476 dL_isActed_473 rfl (by rfl) ⟨480, by decide⟩ ?_
                    refine j_iconst 477 dL_isActed_476 rfl ?_
                    refine j_goto 481 dL_isActed_477 (by decide) ?_
                    refine j_xzret ((S1, H1, P1, v1), c4, b4, n4, u, e4) dL_isActed_481 rfl (by rfl) (by decide) ?_ rfl
                    exact KInv_up k1 (by omega)
                  · skip
                    refine j_iload 9 446 dL_isActed_444 rfl rfl ?_
                    refine j_aload_n 1 447 dL_isActed_446 rfl rfl ?_
                    refine j_aload_n 2 448 dL_isActed_447 rfl rfl ?_
                    refine j_aload_n 3 449 dL_isActed_448 rfl rfl ?_
                    refine j_aload 4 451 dL_isActed_449 rfl rfl ?_
                    refine j_aload 5 453 dL_isActed_451 rfl rfl ?_
                    refine j_callSxB (wcs := [_, _, _, _, _]) (Bs := (fun q => [wA E ca 48 q.1, wA E ba 60 q.2.1, wA E na 16 q.2.2.1, wA E ua 36 u, wA E ea 64 q.2.2.2])) [1, 2, 3, 4, 5] 456 (fun u => [_, _, _, _, _, _]) jX0_ok trivial (c_L_tick E _ _ _ _ _ _ _ _ _ _ _ _ (by exact sInv_pass hk.2.1 (by omega) i) (by omega) (by exact hr4)) rfl (fun _ => rfl) rfl kL_isActed_L_tick rfl rfl (fun _ => rfl) (fun _ => rfl) (Nat.le_of_ble_eq_true rfl) (by decide) dL_isActed_453 rfl (fun uq hu => ?_)
                    obtain ⟨c5, b5, n5, e5⟩ := uq
                    have ht : KRel 1 (sTick (sPass (S 0) i).1) c5 b5 n5 u e5 := hu
                    change jG _ E C _ 0 0 456 _ (.int (jI (sTickN (sPass (S 0) i).1)) :: _) (jFl [wEye E ad qh S H P v, wA E ca 48 c5, wA E ba 60 b5, wA E na 16 n5, wA E ua 36 u, wA E ea 64 e5])
                    refine j_iadd 457 dL_isActed_456 rfl ?_
                    refine j_istore 459 [_, _, _, _, _, _, _, _, _, _, _] dL_isActed_457 rfl (by decide) rfl ?_
                    refine j_iinc 10 462 [_, _, _, _, _, _, _, _, _, _, _] dL_isActed_459 rfl rfl (by decide) rfl ?_
                    refine j_goto 437 dL_isActed_462 (by decide) ?_
                    refine j_perm [2, 3, 4, 5, 6, 7, 8, 9, 10, 1, 0] rfl ?_
                    exact ih (i + 1) _ _ _ _ (by omega) (by omega) ht
              refine j_perm [3, 4, 5, 6, 7, 8, 9, 10, 2, 1, 0] rfl ?_
              exact key437 ((1 + y % 6).toNat + 1) 0 _ _ _ _ (by omega) (by omega) hk.2.2
            · skip
              refine j_aload_n 0 409 dL_isActed_408 rfl rfl ?_
              refine j_aload_n 3 410 dL_isActed_409 rfl rfl ?_
              refine j_iload 7 412 dL_isActed_410 rfl rfl ?_
              refine j_iconst 413 dL_isActed_412 rfl ?_
              refine j_irem 414 dL_isActed_413 rfl (by omega) (by decide) ?_
              refine j_iload 7 416 dL_isActed_414 rfl rfl ?_
              refine j_iconst 417 dL_isActed_416 rfl ?_
              refine j_idiv 418 dL_isActed_417 rfl (by omega) (by decide) ?_
              refine j_callSxB (wcs := [_, _]) (Bs := (fun q => [wEyeC E ad qh q.1, wA E na 16 q.2])) [0, 3] 421 (fun u => [_, _, _, _, _, _]) jT2_ok hT (c_L_isSet E _ _ _ _ _ _ _ _ _ _ _ _ _ _ _ (by exact hk) (by omega) (by omega)) rfl (fun _ => rfl) rfl kL_isActed_L_isSet rfl rfl (fun _ => rfl) (fun _ => rfl) (Nat.le_of_ble_eq_true rfl) (by decide) dL_isActed_418 rfl (fun uq hu => ?_)
              obtain ⟨⟨S1, H1, P1, v1⟩, n1⟩ := uq
              have k1 : KInv N S1 H1 P1 v1 c b n1 u e := hu
              change jG _ E C _ 0 0 421 _ (.int (jI 1) :: _) (jFl [wEye E ad qh S1 H1 P1 v1, wA E ca 48 c, wA E ba 60 b, wA E na 16 n1, wA E ua 36 u, wA E ea 64 e])
              refine j_xzret ((S1, H1, P1, v1), c, b, n1, u, e) dL_isActed_421 rfl (by rfl) (by decide) ?_ rfl
              exact KInv_up k1 (by omega)
          · skip
            obtain ⟨⟨S1, H1, P1, v1⟩, e1, k1⟩ := A_empty hk (l := y % 5) (by omega)
            refine j_aload_n 3 359 dL_isActed_358 rfl rfl ?_
            refine j_iload 7 361 dL_isActed_359 rfl rfl ?_
            refine j_iconst 362 dL_isActed_361 rfl ?_
            refine j_irem 363 dL_isActed_362 rfl (by omega) (by decide) ?_
            refine j_ialdB 3 0 364 dL_isActed_363 rfl rfl rfl (by decide) (by omega) ?_
            refine j_istore 366 [_, _, _, _, _, _, _, _, _] dL_isActed_364 rfl (by decide) rfl ?_
            refine j_aload_n 4 367 dL_isActed_366 rfl rfl ?_
            refine j_iload 8 369 dL_isActed_367 rfl rfl ?_
            refine j_iconst 370 dL_isActed_369 rfl ?_
            refine j_irem 371 dL_isActed_370 rfl (by omega) (by decide) ?_
            refine j_iconst 372 dL_isActed_371 rfl ?_
            refine j_iastB 3 0 373 [_] [_, _, _, _, _, _] dL_isActed_372 rfl rfl rfl (by decide) (by omega) rfl rfl ?_
            refine j_aload_n 4 374 dL_isActed_373 rfl rfl ?_
            refine j_bipush 376 dL_isActed_374 rfl (by decide) ?_
            refine j_dup2 377 dL_isActed_376 rfl rfl rfl ?_
            refine j_ialdB 3 0 378 dL_isActed_377 rfl rfl rfl (by decide) (by omega) ?_
            refine j_iload 0 380 dL_isActed_378 rfl rfl ?_
            refine j_iadd 381 dL_isActed_380 rfl ?_
            refine j_iastB 3 0 382 [_] [_, _, _, _, _, _] dL_isActed_381 rfl rfl rfl (by decide) (by omega) rfl rfl ?_
            refine j_aload_n 1 383 dL_isActed_382 rfl rfl ?_
            refine j_iload 8 385 dL_isActed_383 rfl rfl ?_
            refine j_iconst 386 dL_isActed_385 rfl ?_
            refine j_irem 387 dL_isActed_386 rfl (by omega) (by decide) ?_
            refine j_callViB (wcs := [_]) (cs := [_]) 0 0 [0] 390 [_, _, _, _, _, _] (c_X7_empty E _ _ _ _ _ _ _ (by exact hc0) (by omega)) (jFl_1 _) (jFl_1 _) rfl kL_isActed_X7_empty rfl rfl rfl rfl rfl rfl rfl (Nat.le_of_ble_eq_true rfl) (by decide) dL_isActed_387 rfl ?_
            rw [e1]
            change jG _ E C _ 0 0 390 _ (.int (jI (n (y % 5))) :: _) (jFl [wEye E ad qh S1 H1 P1 v1, wA E ca 48 c, wA E ba 60 b, wA E na 16 (jU (jU n (y % 5) 0) 15 (jU n (y % 5) 0 15 + n (y % 5))), wA E ua 36 u, wA E ea 64 e])
            refine j_iload 0 392 dL_isActed_390 rfl rfl ?_
            refine j_eqn 395 dL_isActed_392 rfl (by rfl) ⟨399, by decide⟩ ?_
            refine j_iconst 396 dL_isActed_395 rfl ?_
            refine j_goto 400 dL_isActed_396 (by decide) ?_
            refine j_xzret ((S1, H1, P1, v1), c, b, jU (jU n (y % 5) 0) 15 (jU n (y % 5) 0 15 + n (y % 5)), u, e) dL_isActed_400 rfl (by rfl) (by decide) ?_ rfl
            exact KInv_up k1 (by omega)
        · skip
          obtain ⟨⟨S1, H1, P1, v1⟩, e1, k1⟩ := A_water hk (l := y % 4) (by omega)
          have jx := jXor (n 8) (y % 4) w8 (by omega)
          refine j_aload_n 3 311 dL_isActed_310 rfl rfl ?_
          refine j_bipush 313 dL_isActed_311 rfl (by decide) ?_
          refine j_dup2 314 dL_isActed_313 rfl rfl rfl ?_
          refine j_ialdB 3 0 315 dL_isActed_314 rfl rfl rfl (by decide) (by omega) ?_
          refine j_iconst 316 dL_isActed_315 rfl ?_
          refine j_iload 7 318 dL_isActed_316 rfl rfl ?_
          refine j_iconst 319 dL_isActed_318 rfl ?_
          refine j_irem 320 dL_isActed_319 rfl (by omega) (by decide) ?_
          refine j_ishl_xor 321 322 dL_isActed_320 dL_isActed_321 rfl rfl (by omega) (by omega) ?_
          refine j_iastB 3 0 323 [_] [_, _, _, _, _, _] dL_isActed_322 rfl rfl rfl (by decide) (by omega) rfl rfl ?_
          refine j_aload_n 0 324 dL_isActed_323 rfl rfl ?_
          refine j_iload 7 326 dL_isActed_324 rfl rfl ?_
          refine j_iconst 327 dL_isActed_326 rfl ?_
          refine j_irem 328 dL_isActed_327 rfl (by omega) (by decide) ?_
          refine j_callViB (wcs := [_]) (cs := [_]) 0 0 [0] 331 [_, _, _, _, _, _] (c_X7_water E _ _ _ _ _ _ _ (by exact hc0) (by omega)) (jFl_1 _) (jFl_1 _) rfl kL_isActed_X7_water rfl rfl rfl rfl rfl rfl rfl (Nat.le_of_ble_eq_true rfl) (by decide) dL_isActed_328 rfl ?_
          rw [e1]
          change jG _ E C _ 0 0 331 _ (.int (jI (wXor (n 8) (y % 4) / 2 ^ (y % 4).toNat % 2)) :: _) (jFl [wEye E ad qh S1 H1 P1 v1, wA E ca 48 c, wA E ba 60 b, wA E na 16 (jU n 8 (wXor (n 8) (y % 4))), wA E ua 36 u, wA E ea 64 e])
          refine j_aload_n 3 332 dL_isActed_331 rfl rfl ?_
          refine j_bipush 334 dL_isActed_332 rfl (by decide) ?_
          refine j_ialdB 3 0 335 dL_isActed_334 rfl rfl rfl (by decide) (by omega) ?_
          rw [jU_at]
          refine j_iload 7 337 dL_isActed_335 rfl rfl ?_
          refine j_iconst 338 dL_isActed_337 rfl ?_
          refine j_irem 339 dL_isActed_338 rfl (by omega) (by decide) ?_
          refine j_ishr_and 340 341 342 dL_isActed_339 dL_isActed_340 dL_isActed_341 rfl rfl rfl jx.1.2.1 (by omega) ?_
          refine j_eqn 345 dL_isActed_342 rfl (by rfl) ⟨349, by decide⟩ ?_
          refine j_iconst 346 dL_isActed_345 rfl ?_
          refine j_goto 350 dL_isActed_346 (by decide) ?_
          refine j_xzret ((S1, H1, P1, v1), c, b, jU n 8 (wXor (n 8) (y % 4)), u, e) dL_isActed_350 rfl (by rfl) (by decide) ?_ rfl
          exact KInv_up k1 (by omega)
      · skip
        refine j_iload 7 197 dL_isActed_195 rfl rfl ?_
        refine j_bipush 199 dL_isActed_197 rfl (by decide) ?_
        refine j_irem 200 dL_isActed_199 rfl (by omega) (by decide) ?_
        refine j_istore 202 [_, _, _, _, _, _, _, _, _] dL_isActed_200 rfl (by decide) rfl ?_
        refine j_iload 0 204 dL_isActed_202 rfl rfl ?_
        rcases (show y % 9 < n 9 ∨ ¬ y % 9 < n 9 by omega) with h2 | h2
        · skip
          obtain ⟨⟨S1, H1, P1, v1⟩, e1, k1⟩ := A_drop hk (r := y % 9) (by omega)
          refine j_aload_n 4 205 dL_isActed_204 rfl rfl ?_
          refine j_bipush 207 dL_isActed_205 rfl (by decide) ?_
          refine j_ialdB 3 0 208 dL_isActed_207 rfl rfl rfl (by decide) (by omega) ?_
          refine j_icmp_ge 215 211 dL_isActed_208 rfl (by decide) (by omega) (by omega) (fun h => absurd h (by omega)) (fun h_208 => ?_)
          refine j_iconst 212 dL_isActed_211 rfl ?_
          refine j_goto 216 dL_isActed_212 (by decide) ?_
          refine j_istore 218 [_, _, _, _, _, _, _, _, _, _] dL_isActed_216 rfl (by decide) rfl ?_
          refine j_aload_n 5 219 dL_isActed_218 rfl rfl ?_
          refine j_bipush 221 dL_isActed_219 rfl (by decide) ?_
          refine j_dup2 222 dL_isActed_221 rfl rfl rfl ?_
          refine j_ialdB 3 0 223 dL_isActed_222 rfl rfl rfl (by decide) (by omega) ?_
          refine j_iload 0 225 dL_isActed_223 rfl rfl ?_
          refine j_if_eq 232 228 dL_isActed_225 rfl (by decide) (by decide) (fun h => absurd h (by decide)) (fun _ => ?_)
          refine j_iconst 229 dL_isActed_228 rfl ?_
          refine j_goto 233 dL_isActed_229 (by decide) ?_
          refine j_isub 234 dL_isActed_233 rfl ?_
          refine j_iastB 3 0 235 [_] [_, _, _, _, _, _] dL_isActed_234 rfl rfl rfl (by decide) (by omega) rfl rfl ?_
          refine j_iconst 236 dL_isActed_235 rfl ?_
          refine j_iload 1 238 dL_isActed_236 rfl rfl ?_
          refine j_imul 239 dL_isActed_238 rfl ?_
          refine j_istore 241 [_, _, _, _, _, _, _, _, _, _, _] dL_isActed_239 rfl (by decide) rfl ?_
          have key241 : ∀ (fu : Nat) (i : Int), 4 * (n 9 - 1) < i + fu → 4 * (y % 9) ≤ i ∧ i ≤ 4 * (n 9 - 1) → jG mL_isActed E C (jQx (T := aT) E C (fun q => KInvC (N + 1) q.1 q.2.1 q.2.2.1 q.2.2.2.1 q.2.2.2.2.1 q.2.2.2.2.2) (fun _ => 1) (fun q => jFl [wEyeC E ad qh q.1, wA E ca 48 q.2.1, wA E ba 60 q.2.2.1, wA E na 16 q.2.2.2.1, wA E ua 36 q.2.2.2.2.1, wA E ea 64 q.2.2.2.2.2])) 0 0 241 [(0, .ref (ad 7 0)), (1, .ref ca), (2, .ref ba), (3, .ref na), (4, .ref ua), (5, .ref ea), (6, .int (jI w)), (7, .int (jI y)), (8, .int (jI (y % 9))), (9, .int (jI 1)), (10, .int (jI i))] [] (jFl [wEye E ad qh S H P v, wA E ca 48 c, wA E ba 60 b, wA E na 16 (jU n 9 (n 9 - 1)), wA E ua 36 (sh4 u (4 * (y % 9)) i), wA E ea 64 e]) := by
            intro fu
            induction fu with
            | zero => intro i h1 h5; exact absurd h1 (by omega)
            | succ fu ih =>
              intro i h1 h5
              refine j_iload 10 243 dL_isActed_241 rfl rfl ?_
              refine j_iconst 244 dL_isActed_243 rfl ?_
              refine j_aload_n 3 245 dL_isActed_244 rfl rfl ?_
              refine j_bipush 247 dL_isActed_245 rfl (by decide) ?_
              refine j_ialdB 3 0 248 dL_isActed_247 rfl rfl rfl (by decide) (by omega) ?_
              rw [jU_at]
              refine j_imul 249 dL_isActed_248 rfl ?_
              refine j_icmp_ge 275 252 dL_isActed_249 rfl (by decide) (by omega) (by omega) (fun h_249 => ?_) (fun h_249 => ?_)
              · skip
                obtain rfl : i = 4 * (n 9 - 1) := by omega
                refine j_aload_n 0 276 dL_isActed_275 rfl rfl ?_
                refine j_iload 8 278 dL_isActed_276 rfl rfl ?_
                refine j_callViB (wcs := [_]) (cs := [_]) 0 0 [0] 281 [_, _, _, _, _, _] (c_X7_drop E _ _ _ _ _ _ _ (by exact hc0) (by omega)) (jFl_1 _) (jFl_1 _) rfl kL_isActed_X7_drop rfl rfl rfl rfl rfl rfl rfl (Nat.le_of_ble_eq_true rfl) (by decide) dL_isActed_278 rfl ?_
                rw [e1]
                change jG _ E C _ 0 0 281 _ (.int (jI (n 9 - 1)) :: _) (jFl [wEye E ad qh S1 H1 P1 v1, wA E ca 48 c, wA E ba 60 b, wA E na 16 (jU n 9 (n 9 - 1)), wA E ua 36 (sh4 u (4 * (y % 9)) (4 * (n 9 - 1))), wA E ea 64 e])
                refine j_iload 9 283 dL_isActed_281 rfl rfl ?_
                refine j_if_eq 293 286 dL_isActed_283 rfl (by decide) (by decide) (fun h => absurd h (by decide)) (fun _ => ?_)
                refine j_aload_n 3 287 dL_isActed_286 rfl rfl ?_
                refine j_bipush 289 dL_isActed_287 rfl (by decide) ?_
                refine j_ialdB 3 0 290 dL_isActed_289 rfl rfl rfl (by decide) (by omega) ?_
                refine j_goto 294 dL_isActed_290 (by decide) ?_
                refine j_eqn 297 dL_isActed_294 rfl (by exact (jU_at _ _ _).symm) ⟨301, by decide⟩ ?_
                refine j_iconst 298 dL_isActed_297 rfl ?_
                refine j_goto 302 dL_isActed_298 (by decide) ?_
                refine j_xzret ((S1, H1, P1, v1), c, b, jU n 9 (n 9 - 1), sh4 u (4 * (y % 9)) (4 * (n 9 - 1)), e) dL_isActed_302 rfl (by rfl) (by decide) ?_ rfl
                exact KInv_up k1 (by omega)
              · skip
                refine j_iload 9 254 dL_isActed_252 rfl rfl ?_
                refine j_if_eq 275 257 dL_isActed_254 rfl (by decide) (by decide) (fun h => absurd h (by decide)) (fun _ => ?_)
                refine j_aload 4 259 dL_isActed_257 rfl rfl ?_
                refine j_iload 10 261 dL_isActed_259 rfl rfl ?_
                refine j_aload 4 263 dL_isActed_261 rfl rfl ?_
                refine j_iload 10 265 dL_isActed_263 rfl rfl ?_
                refine j_iconst 266 dL_isActed_265 rfl ?_
                refine j_iadd 267 dL_isActed_266 rfl ?_
                refine j_ialdB 4 0 268 dL_isActed_267 rfl rfl rfl (by decide) (by omega) ?_
                refine j_iastB 4 0 269 [_] [_, _, _, _, _, _] dL_isActed_268 rfl rfl rfl (by decide) (by omega) rfl rfl ?_
                refine j_iinc 10 272 [_, _, _, _, _, _, _, _, _, _, _] dL_isActed_269 rfl rfl (by decide) rfl ?_
                refine j_goto 241 dL_isActed_272 (by decide) ?_
                refine j_perm [1, 2, 3, 4, 5, 6, 7, 8, 9, 10, 0] rfl ?_
                rw [sh4_step (by omega)]
                exact ih (i + 1) (by omega) (by omega)
          refine j_perm [3, 4, 5, 6, 7, 8, 9, 10, 2, 1, 0] rfl ?_
          refine j_eqw (w' := jFl [wEye E ad qh S H P v, wA E ca 48 c, wA E ba 60 b, wA E na 16 (jU n 9 (n 9 - 1)), wA E ua 36 (sh4 u (4 * (y % 9)) (4 * (y % 9))), wA E ea 64 e]) (by rw [sh4_start]) ?_
          exact key241 ((4 * (n 9 - 1)).toNat + 1) (4 * (y % 9)) (by omega) (by omega)
        · skip
          have e1 := A_dropN hk (r := y % 9) h2
          have zid : jU n 9 (n 9 - 0) = n := by
            have q := jU_id n 9
            rw [Int.add_zero] at q
            rw [Int.sub_zero]
            exact q
          refine j_aload_n 4 205 dL_isActed_204 rfl rfl ?_
          refine j_bipush 207 dL_isActed_205 rfl (by decide) ?_
          refine j_ialdB 3 0 208 dL_isActed_207 rfl rfl rfl (by decide) (by omega) ?_
          refine j_icmp_ge 215 211 dL_isActed_208 rfl (by decide) (by omega) (by omega) (fun h_208 => ?_) (fun h => absurd h (by omega))
          refine j_iconst 216 dL_isActed_215 rfl ?_
          refine j_istore 218 [_, _, _, _, _, _, _, _, _, _] dL_isActed_216 rfl (by decide) rfl ?_
          refine j_aload_n 5 219 dL_isActed_218 rfl rfl ?_
          refine j_bipush 221 dL_isActed_219 rfl (by decide) ?_
          refine j_dup2 222 dL_isActed_221 rfl rfl rfl ?_
          refine j_ialdB 3 0 223 dL_isActed_222 rfl rfl rfl (by decide) (by omega) ?_
          refine j_iload 0 225 dL_isActed_223 rfl rfl ?_
          refine j_if_eq 232 228 dL_isActed_225 rfl (by decide) (by decide) (fun _ => ?_) (fun h => absurd h (by decide))
          refine j_iconst 233 dL_isActed_232 rfl ?_
          refine j_isub 234 dL_isActed_233 rfl ?_
          refine j_iastB 3 0 235 [_] [_, _, _, _, _, _] dL_isActed_234 rfl rfl rfl (by decide) (by omega) rfl rfl ?_
          refine j_iconst 236 dL_isActed_235 rfl ?_
          refine j_iload 1 238 dL_isActed_236 rfl rfl ?_
          refine j_imul 239 dL_isActed_238 rfl ?_
          refine j_istore 241 [_, _, _, _, _, _, _, _, _, _, _] dL_isActed_239 rfl (by decide) rfl ?_
          refine j_iload 0 243 dL_isActed_241 rfl rfl ?_
          refine j_iconst 244 dL_isActed_243 rfl ?_
          refine j_aload_n 6 245 dL_isActed_244 rfl rfl ?_
          refine j_bipush 247 dL_isActed_245 rfl (by decide) ?_
          refine j_ialdB 3 0 248 dL_isActed_247 rfl rfl rfl (by decide) (by omega) ?_
          rw [jU_at]
          refine j_imul 249 dL_isActed_248 rfl ?_
          refine j_icmp_ge 275 252 dL_isActed_249 rfl (by decide) (by omega) (by omega) (fun h_249 => ?_) (fun h => absurd h (by omega))
          refine j_aload_n 3 276 dL_isActed_275 rfl rfl ?_
          refine j_iload 2 278 dL_isActed_276 rfl rfl ?_
          refine j_callViB (wcs := [_]) (cs := [_]) 0 0 [0] 281 [_, _, _, _, _, _] (c_X7_drop E _ _ _ _ _ _ _ (by exact hc0) (by omega)) (jFl_1 _) (jFl_1 _) rfl kL_isActed_X7_drop rfl rfl rfl rfl rfl rfl rfl (Nat.le_of_ble_eq_true rfl) (by decide) dL_isActed_278 rfl ?_
          rw [e1]
          refine j_iload 1 283 dL_isActed_281 rfl rfl ?_
          refine j_if_eq 293 286 dL_isActed_283 rfl (by decide) (by decide) (fun _ => ?_) (fun h => absurd h (by decide))
          refine j_iconst 294 dL_isActed_293 rfl ?_
          refine j_eqn 297 dL_isActed_294 rfl (by rfl) ⟨301, by decide⟩ ?_
          refine j_iconst 298 dL_isActed_297 rfl ?_
          refine j_goto 302 dL_isActed_298 (by decide) ?_
          refine j_xzret ((S, H, P, v), c, b, jU n 9 (n 9 - 0), u, e) dL_isActed_302 rfl (by rfl) (by decide) ?_ rfl
          rw [zid]
          exact KInv_up hk (by omega)
    · skip
      refine j_aload_n 0 179 dL_isActed_178 rfl rfl ?_
      refine j_aload_n 3 180 dL_isActed_179 rfl rfl ?_
      refine j_aload 4 182 dL_isActed_180 rfl rfl ?_
      refine j_iload 7 184 dL_isActed_182 rfl rfl ?_
      refine j_callSxB (wcs := [_, _, _]) (Bs := (fun q => [wEyeC E ad qh q.1, wA E na 16 q.2.1, wA E ua 36 q.2.2])) [0, 3, 4] 187 (fun u => [_, _, _, _, _, _]) jX0_ok trivial (c_L_isRule E _ _ _ _ _ _ _ _ _ _ _ _ _ _ _ (by exact hk) (by omega)) rfl (fun _ => rfl) rfl kL_isActed_L_isRule rfl rfl (fun _ => rfl) (fun _ => rfl) (Nat.le_of_ble_eq_true rfl) (by decide) dL_isActed_184 rfl (fun uq hu => ?_)
      obtain ⟨⟨S1, H1, P1, v1⟩, n1, u1⟩ := uq
      have k1 : KInv N S1 H1 P1 v1 c b n1 u1 e := hu
      change jG _ E C _ 0 0 187 _ (.int (jI 1) :: _) (jFl [wEye E ad qh S1 H1 P1 v1, wA E ca 48 c, wA E ba 60 b, wA E na 16 n1, wA E ua 36 u1, wA E ea 64 e])
      refine j_xzret ((S1, H1, P1, v1), c, b, n1, u1, e) dL_isActed_187 rfl (by rfl) (by decide) ?_ rfl
      exact KInv_up k1 (by omega)
  · skip
    refine j_bipush 9 dL_isActed_7 rfl (by decide) ?_
    refine j_iload 7 11 dL_isActed_9 rfl rfl ?_
    refine j_sipush 14 dL_isActed_11 rfl (by decide) ?_
    refine j_irem 15 dL_isActed_14 rfl (by omega) (by decide) ?_
    refine j_iadd 16 dL_isActed_15 rfl ?_
    refine j_istore 18 [_, _, _, _, _, _, _, _, _] dL_isActed_16 rfl (by decide) rfl ?_
    refine j_iload 8 20 dL_isActed_18 rfl rfl ?_
    refine j_sipush 23 dL_isActed_20 rfl (by decide) ?_
    refine j_idiv 24 dL_isActed_23 rfl (by omega) (by decide) ?_
    refine j_bipush 26 dL_isActed_24 rfl (by decide) ?_
    refine j_irem 27 dL_isActed_26 rfl (by omega) (by decide) ?_
    refine j_istore 29 [_, _, _, _, _, _, _, _, _, _] dL_isActed_27 rfl (by decide) rfl ?_
    refine j_iload 9 31 dL_isActed_29 rfl rfl ?_
    refine j_iconst 32 dL_isActed_31 rfl ?_
    refine j_idiv 33 dL_isActed_32 rfl (by omega) (by decide) ?_
    refine j_bipush 35 dL_isActed_33 rfl (by decide) ?_
    refine j_irem 36 dL_isActed_35 rfl (by omega) (by decide) ?_
    refine j_istore 38 [_, _, _, _, _, _, _, _, _, _, _] dL_isActed_36 rfl (by decide) rfl ?_
    rcases (show (c 0 = 2 ∧ w < 6) ∨ (c 0 = 2 ∧ ¬ w < 6) ∨ (¬ c 0 = 2 ∧ w < 6) ∨ (¬ c 0 = 2 ∧ ¬ w < 6) by omega) with ⟨h2, h3⟩ | ⟨h2, h3⟩ | ⟨h2, h3⟩ | ⟨h2, h3⟩
    · skip
      have tt : (50 ≤ (50 + y % 251) ∧ (50 + y % 251) ≤ 300) ∧ (0 ≤ (y / 251 % 101) ∧ (y / 251 % 101) ≤ 100) ∧ (0 ≤ (y / 5 % 10) ∧ (y / 5 % 10) ≤ 9) := by omega
      have e1 := A_full hk h2 tt
      refine j_aload_n 4 39 dL_isActed_38 rfl rfl ?_
      refine j_iconst 40 dL_isActed_39 rfl ?_
      refine j_ialdB 1 0 41 dL_isActed_40 rfl rfl rfl (by decide) (by omega) ?_
      refine j_iconst 42 dL_isActed_41 rfl ?_
      refine j_icmp_ne 49 45 dL_isActed_42 rfl (by decide) (by omega) (by omega) (fun h => absurd h (by omega)) (fun h_42 => ?_)
      refine j_iconst 46 dL_isActed_45 rfl ?_
      refine j_goto 50 dL_isActed_46 (by decide) ?_
      refine j_istore 52 [_, _, _, _, _, _, _, _, _, _, _, _] dL_isActed_50 rfl (by decide) rfl ?_
      refine j_iload 0 54 dL_isActed_52 rfl rfl ?_
      refine j_if_ne 88 57 dL_isActed_54 rfl (by decide) (by decide) (fun _ => ?_) (fun h => absurd h (by decide))
      refine j_aload_n 4 89 dL_isActed_88 rfl rfl ?_
      refine j_iload 3 91 dL_isActed_89 rfl rfl ?_
      refine j_iload 2 93 dL_isActed_91 rfl rfl ?_
      refine j_iload 1 95 dL_isActed_93 rfl rfl ?_
      refine j_callViB (wcs := [_]) (cs := [_]) 0 0 [0] 98 [_, _, _, _, _, _] (c_X7_lay E _ _ _ _ _ _ _ _ _ (by exact hc0) (by omega) (by omega) (by omega)) (jFl_1 _) (jFl_1 _) rfl kL_isActed_X7_lay rfl rfl rfl rfl rfl rfl rfl (Nat.le_of_ble_eq_true rfl) (by decide) dL_isActed_95 rfl ?_
      rw [e1]
      change jG _ E C _ 0 0 98 _ (.int (jI (-3)) :: _) (jFl [wEye E ad qh S H P v, wA E ca 48 c, wA E ba 60 b, wA E na 16 n, wA E ua 36 u, wA E ea 64 e])
      refine j_iload 0 100 dL_isActed_98 rfl rfl ?_
      refine j_if_eq 108 103 dL_isActed_100 rfl (by decide) (by decide) (fun h => absurd h (by decide)) (fun _ => ?_)
      refine j_bipush 105 dL_isActed_103 rfl (by decide) ?_
      refine j_goto 111 dL_isActed_105 (by decide) ?_
      refine j_eqn 114 dL_isActed_111 rfl (by rfl) ⟨118, by decide⟩ ?_
      refine j_iconst 115 dL_isActed_114 rfl ?_
      refine j_goto 119 dL_isActed_115 (by decide) ?_
      refine j_istore 121 [_, _, _, _, _, _, _, _, _, _, _, _, _] dL_isActed_119 rfl (by decide) rfl ?_
      refine j_iload 11 123 dL_isActed_121 rfl rfl ?_
      refine j_bipush 125 dL_isActed_123 rfl (by decide) ?_
      refine j_icmp_ge 141 128 dL_isActed_125 rfl (by decide) (by omega) (by omega) (fun h => absurd h (by omega)) (fun h_125 => ?_)
      refine j_aload_n 6 129 dL_isActed_128 rfl rfl ?_
      refine j_aload_n 7 130 dL_isActed_129 rfl rfl ?_
      refine j_aload_n 8 131 dL_isActed_130 rfl rfl ?_
      refine j_aload 9 133 dL_isActed_131 rfl rfl ?_
      refine j_aload 10 135 dL_isActed_133 rfl rfl ?_
      refine j_callSxB (wcs := [_, _, _, _, _]) (Bs := (fun q => [wA E ca 48 q.1, wA E ba 60 q.2.1, wA E na 16 q.2.2.1, wA E ua 36 u, wA E ea 64 q.2.2.2])) [1, 2, 3, 4, 5] 138 (fun u => [_, _, _, _, _, _]) jX0_ok trivial (c_L_tick E _ _ _ _ _ _ _ _ _ _ _ _ (by exact hk.2.1) (by omega) (by exact hk.2.2)) rfl (fun _ => rfl) rfl kL_isActed_L_tick rfl rfl (fun _ => rfl) (fun _ => rfl) (Nat.le_of_ble_eq_true rfl) (by decide) dL_isActed_135 rfl (fun uq hu => ?_)
      obtain ⟨c3, b3, n3, e3⟩ := uq
      have ht : KRel 1 (sTick (S 0)) c3 b3 n3 u e3 := hu
      change jG _ E C _ 0 0 138 _ (.int (jI (sTickN (S 0))) :: _) (jFl [wEye E ad qh S H P v, wA E ca 48 c3, wA E ba 60 b3, wA E na 16 n3, wA E ua 36 u, wA E ea 64 e3])
      obtain ⟨⟨S2, H2, P2, v2⟩, e2, k2⟩ := A_pass1 hk.1 hk.2.1 (by omega) ht
      refine j_goto 142 dL_isActed_138 (by decide) ?_
      refine j_istore 144 [_, _, _, _, _, _, _, _, _, _, _, _, _, _] dL_isActed_142 rfl (by decide) rfl ?_
      refine j_iload 1 146 dL_isActed_144 rfl rfl ?_
      refine j_if_eq 169 149 dL_isActed_146 rfl (by decide) (by decide) (fun h => absurd h (by decide)) (fun _ => ?_)
      refine j_iload 12 151 dL_isActed_149 rfl rfl ?_
      refine j_iconst 152 dL_isActed_151 rfl ?_
      refine j_icmp_gt 165 155 dL_isActed_152 rfl (by decide) (by omega) (by omega) (fun h => absurd h (by omega)) (fun h_152 => ?_)
      refine j_aload_n 6 156 dL_isActed_155 rfl rfl ?_
      refine j_iconst 157 dL_isActed_156 rfl ?_
      refine j_callViB (wcs := [_]) (cs := [_]) 0 0 [0] 160 [_, _, _, _, _, _] (c_X7_pass E _ _ _ _ _ _ _ (by exact hk.1) (by omega) (by exact sInv_le hk.2.1 (by omega))) (jFl_1 _) (jFl_1 _) rfl kL_isActed_X7_pass rfl rfl rfl rfl rfl rfl rfl (Nat.le_of_ble_eq_true rfl) (by decide) dL_isActed_157 rfl ?_
      rw [e2]
      change jG _ E C _ 0 0 160 _ (.int (jI (sTickN (S 0))) :: _) (jFl [wEye E ad qh S2 H2 P2 v2, wA E ca 48 c3, wA E ba 60 b3, wA E na 16 n3, wA E ua 36 u, wA E ea 64 e3])
      refine j_iload 0 162 dL_isActed_160 rfl rfl ?_
      refine j_eqn 165 dL_isActed_162 rfl (by rfl) ⟨169, by decide⟩ ?_
      refine j_iconst 166 dL_isActed_165 rfl ?_
      refine j_goto 170 dL_isActed_166 (by decide) ?_
      refine j_xzret ((S2, H2, P2, v2), c3, b3, n3, u, e3) dL_isActed_170 rfl (by rfl) (by decide) ?_ rfl
      exact KInv_up k2 (by omega)
    · skip
      have tt : (50 ≤ (50 + y % 251) ∧ (50 + y % 251) ≤ 300) ∧ (0 ≤ (y / 251 % 101) ∧ (y / 251 % 101) ≤ 100) ∧ (0 ≤ (y / 5 % 10) ∧ (y / 5 % 10) ≤ 9) := by omega
      have e1 := A_full hk h2 tt
      refine j_aload_n 4 39 dL_isActed_38 rfl rfl ?_
      refine j_iconst 40 dL_isActed_39 rfl ?_
      refine j_ialdB 1 0 41 dL_isActed_40 rfl rfl rfl (by decide) (by omega) ?_
      refine j_iconst 42 dL_isActed_41 rfl ?_
      refine j_icmp_ne 49 45 dL_isActed_42 rfl (by decide) (by omega) (by omega) (fun h => absurd h (by omega)) (fun h_42 => ?_)
      refine j_iconst 46 dL_isActed_45 rfl ?_
      refine j_goto 50 dL_isActed_46 (by decide) ?_
      refine j_istore 52 [_, _, _, _, _, _, _, _, _, _, _, _] dL_isActed_50 rfl (by decide) rfl ?_
      refine j_iload 0 54 dL_isActed_52 rfl rfl ?_
      refine j_if_ne 88 57 dL_isActed_54 rfl (by decide) (by decide) (fun _ => ?_) (fun h => absurd h (by decide))
      refine j_aload_n 4 89 dL_isActed_88 rfl rfl ?_
      refine j_iload 3 91 dL_isActed_89 rfl rfl ?_
      refine j_iload 2 93 dL_isActed_91 rfl rfl ?_
      refine j_iload 1 95 dL_isActed_93 rfl rfl ?_
      refine j_callViB (wcs := [_]) (cs := [_]) 0 0 [0] 98 [_, _, _, _, _, _] (c_X7_lay E _ _ _ _ _ _ _ _ _ (by exact hc0) (by omega) (by omega) (by omega)) (jFl_1 _) (jFl_1 _) rfl kL_isActed_X7_lay rfl rfl rfl rfl rfl rfl rfl (Nat.le_of_ble_eq_true rfl) (by decide) dL_isActed_95 rfl ?_
      rw [e1]
      change jG _ E C _ 0 0 98 _ (.int (jI (-3)) :: _) (jFl [wEye E ad qh S H P v, wA E ca 48 c, wA E ba 60 b, wA E na 16 n, wA E ua 36 u, wA E ea 64 e])
      refine j_iload 0 100 dL_isActed_98 rfl rfl ?_
      refine j_if_eq 108 103 dL_isActed_100 rfl (by decide) (by decide) (fun h => absurd h (by decide)) (fun _ => ?_)
      refine j_bipush 105 dL_isActed_103 rfl (by decide) ?_
      refine j_goto 111 dL_isActed_105 (by decide) ?_
      refine j_eqn 114 dL_isActed_111 rfl (by rfl) ⟨118, by decide⟩ ?_
      refine j_iconst 115 dL_isActed_114 rfl ?_
      refine j_goto 119 dL_isActed_115 (by decide) ?_
      refine j_istore 121 [_, _, _, _, _, _, _, _, _, _, _, _, _] dL_isActed_119 rfl (by decide) rfl ?_
      refine j_iload 11 123 dL_isActed_121 rfl rfl ?_
      refine j_bipush 125 dL_isActed_123 rfl (by decide) ?_
      refine j_icmp_ge 141 128 dL_isActed_125 rfl (by decide) (by omega) (by omega) (fun h_125 => ?_) (fun h => absurd h (by omega))
      refine j_iconst 142 dL_isActed_141 rfl ?_
      refine j_istore 144 [_, _, _, _, _, _, _, _, _, _, _, _, _, _] dL_isActed_142 rfl (by decide) rfl ?_
      refine j_iload 1 146 dL_isActed_144 rfl rfl ?_
      refine j_if_eq 169 149 dL_isActed_146 rfl (by decide) (by decide) (fun h => absurd h (by decide)) (fun _ => ?_)
      refine j_iload 12 151 dL_isActed_149 rfl rfl ?_
      refine j_iconst 152 dL_isActed_151 rfl ?_
      refine j_icmp_gt 165 155 dL_isActed_152 rfl (by decide) (by omega) (by omega) (fun h_152 => ?_) (fun h => absurd h (by omega))
      refine j_iconst 166 dL_isActed_165 rfl ?_
      refine j_goto 170 dL_isActed_166 (by decide) ?_
      refine j_xzret ((S, H, P, v), c, b, n, u, e) dL_isActed_170 rfl (by rfl) (by decide) ?_ rfl
      exact KInv_up hk (by omega)
    · skip
      have tt : (50 ≤ (50 + y % 251) ∧ (50 + y % 251) ≤ 300) ∧ (0 ≤ (y / 251 % 101) ∧ (y / 251 % 101) ≤ 100) ∧ (0 ≤ (y / 5 % 10) ∧ (y / 5 % 10) ≤ 9) := by omega
      obtain ⟨⟨S1, H1, P1, v1⟩, e1, k1x⟩ := A_lay hk h2 tt
      have k1 : KInv (N + 1) S1 H1 P1 v1 (jU (jU c (1 + c 0) ((50 + y % 251) * 10000 + (y / 251 % 101) * 10 + (y / 5 % 10))) 0 (jU c (1 + c 0) ((50 + y % 251) * 10000 + (y / 251 % 101) * 10 + (y / 5 % 10)) 0 + 1)) b (jU n 11 (n 11 + 1)) u e := k1x
      have z0 : jU c (1 + c 0) ((50 + y % 251) * 10000 + (y / 251 % 101) * 10 + (y / 5 % 10)) 0 = c 0 := jU_ne (by omega)
      have z1 : (jU (jU c (1 + c 0) ((50 + y % 251) * 10000 + (y / 251 % 101) * 10 + (y / 5 % 10))) 0 (jU c (1 + c 0) ((50 + y % 251) * 10000 + (y / 251 % 101) * 10 + (y / 5 % 10)) 0 + 1)) 0 = c 0 + 1 := by rw [jU_at, z0]
      refine j_aload_n 4 39 dL_isActed_38 rfl rfl ?_
      refine j_iconst 40 dL_isActed_39 rfl ?_
      refine j_ialdB 1 0 41 dL_isActed_40 rfl rfl rfl (by decide) (by omega) ?_
      refine j_iconst 42 dL_isActed_41 rfl ?_
      refine j_icmp_ne 49 45 dL_isActed_42 rfl (by decide) (by omega) (by omega) (fun h_42 => ?_) (fun h => absurd h (by omega))
      refine j_iconst 50 dL_isActed_49 rfl ?_
      refine j_istore 52 [_, _, _, _, _, _, _, _, _, _, _, _] dL_isActed_50 rfl (by decide) rfl ?_
      refine j_iload 0 54 dL_isActed_52 rfl rfl ?_
      refine j_if_ne 88 57 dL_isActed_54 rfl (by decide) (by decide) (fun h => absurd h (by decide)) (fun _ => ?_)
      refine j_aload_n 5 58 dL_isActed_57 rfl rfl ?_
      refine j_iconst 59 dL_isActed_58 rfl ?_
      refine j_aload_n 5 60 dL_isActed_59 rfl rfl ?_
      refine j_iconst 61 dL_isActed_60 rfl ?_
      refine j_ialdB 1 0 62 dL_isActed_61 rfl rfl rfl (by decide) (by omega) ?_
      refine j_iadd 63 dL_isActed_62 rfl ?_
      refine j_iload 3 65 dL_isActed_63 rfl rfl ?_
      refine j_iload 2 67 dL_isActed_65 rfl rfl ?_
      refine j_iload 1 69 dL_isActed_67 rfl rfl ?_
      refine j_callSiB (wcs := []) (cs := []) [] 72 [_, _, _, _, _, _] (c_L_pack E _ _ _ ) rfl rfl rfl kL_isActed_L_pack rfl rfl rfl rfl (Nat.le_of_ble_eq_true rfl) (by decide) dL_isActed_69 rfl ?_
      refine j_iastB 1 0 73 [_] [_, _, _, _, _, _] dL_isActed_72 rfl rfl rfl (by decide) (by omega) rfl rfl ?_
      refine j_aload_n 5 74 dL_isActed_73 rfl rfl ?_
      refine j_iconst 75 dL_isActed_74 rfl ?_
      refine j_dup2 76 dL_isActed_75 rfl rfl rfl ?_
      refine j_ialdB 1 0 77 dL_isActed_76 rfl rfl rfl (by decide) (by omega) ?_
      refine j_iconst 78 dL_isActed_77 rfl ?_
      refine j_iadd 79 dL_isActed_78 rfl ?_
      refine j_iastB 1 0 80 [_] [_, _, _, _, _, _] dL_isActed_79 rfl rfl rfl (by decide) (by omega) rfl rfl ?_
      refine j_aload_n 7 81 dL_isActed_80 rfl rfl ?_
      refine j_bipush 83 dL_isActed_81 rfl (by decide) ?_
      refine j_dup2 84 dL_isActed_83 rfl rfl rfl ?_
      refine j_ialdB 3 0 85 dL_isActed_84 rfl rfl rfl (by decide) (by omega) ?_
      refine j_iconst 86 dL_isActed_85 rfl ?_
      refine j_iadd 87 dL_isActed_86 rfl ?_
      refine j_iastB 3 0 88 [_] [_, _, _, _, _, _] dL_isActed_87 rfl rfl rfl (by decide) (by omega) rfl rfl ?_
      refine j_aload_n 4 89 dL_isActed_88 rfl rfl ?_
      refine j_iload 3 91 dL_isActed_89 rfl rfl ?_
      refine j_iload 2 93 dL_isActed_91 rfl rfl ?_
      refine j_iload 1 95 dL_isActed_93 rfl rfl ?_
      refine j_callViB (wcs := [_]) (cs := [_]) 0 0 [0] 98 [_, _, _, _, _, _] (c_X7_lay E _ _ _ _ _ _ _ _ _ (by exact hc0) (by omega) (by omega) (by omega)) (jFl_1 _) (jFl_1 _) rfl kL_isActed_X7_lay rfl rfl rfl rfl rfl rfl rfl (Nat.le_of_ble_eq_true rfl) (by decide) dL_isActed_95 rfl ?_
      rw [e1]
      change jG _ E C _ 0 0 98 _ (.int (jI (c 0 + 1)) :: _) (jFl [wEye E ad qh S1 H1 P1 v1, wA E ca 48 (jU (jU c (1 + c 0) ((50 + y % 251) * 10000 + (y / 251 % 101) * 10 + (y / 5 % 10))) 0 (jU c (1 + c 0) ((50 + y % 251) * 10000 + (y / 251 % 101) * 10 + (y / 5 % 10)) 0 + 1)), wA E ba 60 b, wA E na 16 (jU n 11 (n 11 + 1)), wA E ua 36 u, wA E ea 64 e])
      refine j_iload 0 100 dL_isActed_98 rfl rfl ?_
      refine j_if_eq 108 103 dL_isActed_100 rfl (by decide) (by decide) (fun _ => ?_) (fun h => absurd h (by decide))
      refine j_aload_n 5 109 dL_isActed_108 rfl rfl ?_
      refine j_iconst 110 dL_isActed_109 rfl ?_
      refine j_ialdB 1 0 111 dL_isActed_110 rfl rfl rfl (by decide) (by omega) ?_
      refine j_eqn 114 dL_isActed_111 rfl (by exact z1.symm) ⟨118, by decide⟩ ?_
      refine j_iconst 115 dL_isActed_114 rfl ?_
      refine j_goto 119 dL_isActed_115 (by decide) ?_
      refine j_istore 121 [_, _, _, _, _, _, _, _, _, _, _, _, _] dL_isActed_119 rfl (by decide) rfl ?_
      refine j_iload 11 123 dL_isActed_121 rfl rfl ?_
      refine j_bipush 125 dL_isActed_123 rfl (by decide) ?_
      refine j_icmp_ge 141 128 dL_isActed_125 rfl (by decide) (by omega) (by omega) (fun h => absurd h (by omega)) (fun h_125 => ?_)
      refine j_aload_n 6 129 dL_isActed_128 rfl rfl ?_
      refine j_aload_n 7 130 dL_isActed_129 rfl rfl ?_
      refine j_aload_n 8 131 dL_isActed_130 rfl rfl ?_
      refine j_aload 9 133 dL_isActed_131 rfl rfl ?_
      refine j_aload 10 135 dL_isActed_133 rfl rfl ?_
      refine j_callSxB (wcs := [_, _, _, _, _]) (Bs := (fun q => [wA E ca 48 q.1, wA E ba 60 q.2.1, wA E na 16 q.2.2.1, wA E ua 36 u, wA E ea 64 q.2.2.2])) [1, 2, 3, 4, 5] 138 (fun u => [_, _, _, _, _, _]) jX0_ok trivial (c_L_tick E _ _ _ _ _ _ _ _ _ _ _ _ (by exact k1.2.1) (by omega) (by exact k1.2.2)) rfl (fun _ => rfl) rfl kL_isActed_L_tick rfl rfl (fun _ => rfl) (fun _ => rfl) (Nat.le_of_ble_eq_true rfl) (by decide) dL_isActed_135 rfl (fun uq hu => ?_)
      obtain ⟨c3, b3, n3, e3⟩ := uq
      have ht : KRel 1 (sTick (S1 0)) c3 b3 n3 u e3 := hu
      change jG _ E C _ 0 0 138 _ (.int (jI (sTickN (S1 0))) :: _) (jFl [wEye E ad qh S1 H1 P1 v1, wA E ca 48 c3, wA E ba 60 b3, wA E na 16 n3, wA E ua 36 u, wA E ea 64 e3])
      obtain ⟨⟨S2, H2, P2, v2⟩, e2, k2⟩ := A_pass1 k1.1 k1.2.1 (by omega) ht
      refine j_goto 142 dL_isActed_138 (by decide) ?_
      refine j_istore 144 [_, _, _, _, _, _, _, _, _, _, _, _, _, _] dL_isActed_142 rfl (by decide) rfl ?_
      refine j_iload 1 146 dL_isActed_144 rfl rfl ?_
      refine j_if_eq 169 149 dL_isActed_146 rfl (by decide) (by decide) (fun h => absurd h (by decide)) (fun _ => ?_)
      refine j_iload 12 151 dL_isActed_149 rfl rfl ?_
      refine j_iconst 152 dL_isActed_151 rfl ?_
      refine j_icmp_gt 165 155 dL_isActed_152 rfl (by decide) (by omega) (by omega) (fun h => absurd h (by omega)) (fun h_152 => ?_)
      refine j_aload_n 6 156 dL_isActed_155 rfl rfl ?_
      refine j_iconst 157 dL_isActed_156 rfl ?_
      refine j_callViB (wcs := [_]) (cs := [_]) 0 0 [0] 160 [_, _, _, _, _, _] (c_X7_pass E _ _ _ _ _ _ _ (by exact k1.1) (by omega) (by exact sInv_le k1.2.1 (by omega))) (jFl_1 _) (jFl_1 _) rfl kL_isActed_X7_pass rfl rfl rfl rfl rfl rfl rfl (Nat.le_of_ble_eq_true rfl) (by decide) dL_isActed_157 rfl ?_
      rw [e2]
      change jG _ E C _ 0 0 160 _ (.int (jI (sTickN (S1 0))) :: _) (jFl [wEye E ad qh S2 H2 P2 v2, wA E ca 48 c3, wA E ba 60 b3, wA E na 16 n3, wA E ua 36 u, wA E ea 64 e3])
      refine j_iload 0 162 dL_isActed_160 rfl rfl ?_
      refine j_eqn 165 dL_isActed_162 rfl (by rfl) ⟨169, by decide⟩ ?_
      refine j_iconst 166 dL_isActed_165 rfl ?_
      refine j_goto 170 dL_isActed_166 (by decide) ?_
      refine j_xzret ((S2, H2, P2, v2), c3, b3, n3, u, e3) dL_isActed_170 rfl (by rfl) (by decide) ?_ rfl
      exact KInv_up k2 (by omega)
    · skip
      have tt : (50 ≤ (50 + y % 251) ∧ (50 + y % 251) ≤ 300) ∧ (0 ≤ (y / 251 % 101) ∧ (y / 251 % 101) ≤ 100) ∧ (0 ≤ (y / 5 % 10) ∧ (y / 5 % 10) ≤ 9) := by omega
      obtain ⟨⟨S1, H1, P1, v1⟩, e1, k1x⟩ := A_lay hk h2 tt
      have k1 : KInv (N + 1) S1 H1 P1 v1 (jU (jU c (1 + c 0) ((50 + y % 251) * 10000 + (y / 251 % 101) * 10 + (y / 5 % 10))) 0 (jU c (1 + c 0) ((50 + y % 251) * 10000 + (y / 251 % 101) * 10 + (y / 5 % 10)) 0 + 1)) b (jU n 11 (n 11 + 1)) u e := k1x
      have z0 : jU c (1 + c 0) ((50 + y % 251) * 10000 + (y / 251 % 101) * 10 + (y / 5 % 10)) 0 = c 0 := jU_ne (by omega)
      have z1 : (jU (jU c (1 + c 0) ((50 + y % 251) * 10000 + (y / 251 % 101) * 10 + (y / 5 % 10))) 0 (jU c (1 + c 0) ((50 + y % 251) * 10000 + (y / 251 % 101) * 10 + (y / 5 % 10)) 0 + 1)) 0 = c 0 + 1 := by rw [jU_at, z0]
      refine j_aload_n 4 39 dL_isActed_38 rfl rfl ?_
      refine j_iconst 40 dL_isActed_39 rfl ?_
      refine j_ialdB 1 0 41 dL_isActed_40 rfl rfl rfl (by decide) (by omega) ?_
      refine j_iconst 42 dL_isActed_41 rfl ?_
      refine j_icmp_ne 49 45 dL_isActed_42 rfl (by decide) (by omega) (by omega) (fun h_42 => ?_) (fun h => absurd h (by omega))
      refine j_iconst 50 dL_isActed_49 rfl ?_
      refine j_istore 52 [_, _, _, _, _, _, _, _, _, _, _, _] dL_isActed_50 rfl (by decide) rfl ?_
      refine j_iload 0 54 dL_isActed_52 rfl rfl ?_
      refine j_if_ne 88 57 dL_isActed_54 rfl (by decide) (by decide) (fun h => absurd h (by decide)) (fun _ => ?_)
      refine j_aload_n 5 58 dL_isActed_57 rfl rfl ?_
      refine j_iconst 59 dL_isActed_58 rfl ?_
      refine j_aload_n 5 60 dL_isActed_59 rfl rfl ?_
      refine j_iconst 61 dL_isActed_60 rfl ?_
      refine j_ialdB 1 0 62 dL_isActed_61 rfl rfl rfl (by decide) (by omega) ?_
      refine j_iadd 63 dL_isActed_62 rfl ?_
      refine j_iload 3 65 dL_isActed_63 rfl rfl ?_
      refine j_iload 2 67 dL_isActed_65 rfl rfl ?_
      refine j_iload 1 69 dL_isActed_67 rfl rfl ?_
      refine j_callSiB (wcs := []) (cs := []) [] 72 [_, _, _, _, _, _] (c_L_pack E _ _ _ ) rfl rfl rfl kL_isActed_L_pack rfl rfl rfl rfl (Nat.le_of_ble_eq_true rfl) (by decide) dL_isActed_69 rfl ?_
      refine j_iastB 1 0 73 [_] [_, _, _, _, _, _] dL_isActed_72 rfl rfl rfl (by decide) (by omega) rfl rfl ?_
      refine j_aload_n 5 74 dL_isActed_73 rfl rfl ?_
      refine j_iconst 75 dL_isActed_74 rfl ?_
      refine j_dup2 76 dL_isActed_75 rfl rfl rfl ?_
      refine j_ialdB 1 0 77 dL_isActed_76 rfl rfl rfl (by decide) (by omega) ?_
      refine j_iconst 78 dL_isActed_77 rfl ?_
      refine j_iadd 79 dL_isActed_78 rfl ?_
      refine j_iastB 1 0 80 [_] [_, _, _, _, _, _] dL_isActed_79 rfl rfl rfl (by decide) (by omega) rfl rfl ?_
      refine j_aload_n 7 81 dL_isActed_80 rfl rfl ?_
      refine j_bipush 83 dL_isActed_81 rfl (by decide) ?_
      refine j_dup2 84 dL_isActed_83 rfl rfl rfl ?_
      refine j_ialdB 3 0 85 dL_isActed_84 rfl rfl rfl (by decide) (by omega) ?_
      refine j_iconst 86 dL_isActed_85 rfl ?_
      refine j_iadd 87 dL_isActed_86 rfl ?_
      refine j_iastB 3 0 88 [_] [_, _, _, _, _, _] dL_isActed_87 rfl rfl rfl (by decide) (by omega) rfl rfl ?_
      refine j_aload_n 4 89 dL_isActed_88 rfl rfl ?_
      refine j_iload 3 91 dL_isActed_89 rfl rfl ?_
      refine j_iload 2 93 dL_isActed_91 rfl rfl ?_
      refine j_iload 1 95 dL_isActed_93 rfl rfl ?_
      refine j_callViB (wcs := [_]) (cs := [_]) 0 0 [0] 98 [_, _, _, _, _, _] (c_X7_lay E _ _ _ _ _ _ _ _ _ (by exact hc0) (by omega) (by omega) (by omega)) (jFl_1 _) (jFl_1 _) rfl kL_isActed_X7_lay rfl rfl rfl rfl rfl rfl rfl (Nat.le_of_ble_eq_true rfl) (by decide) dL_isActed_95 rfl ?_
      rw [e1]
      change jG _ E C _ 0 0 98 _ (.int (jI (c 0 + 1)) :: _) (jFl [wEye E ad qh S1 H1 P1 v1, wA E ca 48 (jU (jU c (1 + c 0) ((50 + y % 251) * 10000 + (y / 251 % 101) * 10 + (y / 5 % 10))) 0 (jU c (1 + c 0) ((50 + y % 251) * 10000 + (y / 251 % 101) * 10 + (y / 5 % 10)) 0 + 1)), wA E ba 60 b, wA E na 16 (jU n 11 (n 11 + 1)), wA E ua 36 u, wA E ea 64 e])
      refine j_iload 0 100 dL_isActed_98 rfl rfl ?_
      refine j_if_eq 108 103 dL_isActed_100 rfl (by decide) (by decide) (fun _ => ?_) (fun h => absurd h (by decide))
      refine j_aload_n 5 109 dL_isActed_108 rfl rfl ?_
      refine j_iconst 110 dL_isActed_109 rfl ?_
      refine j_ialdB 1 0 111 dL_isActed_110 rfl rfl rfl (by decide) (by omega) ?_
      refine j_eqn 114 dL_isActed_111 rfl (by exact z1.symm) ⟨118, by decide⟩ ?_
      refine j_iconst 115 dL_isActed_114 rfl ?_
      refine j_goto 119 dL_isActed_115 (by decide) ?_
      refine j_istore 121 [_, _, _, _, _, _, _, _, _, _, _, _, _] dL_isActed_119 rfl (by decide) rfl ?_
      refine j_iload 11 123 dL_isActed_121 rfl rfl ?_
      refine j_bipush 125 dL_isActed_123 rfl (by decide) ?_
      refine j_icmp_ge 141 128 dL_isActed_125 rfl (by decide) (by omega) (by omega) (fun h_125 => ?_) (fun h => absurd h (by omega))
      refine j_iconst 142 dL_isActed_141 rfl ?_
      refine j_istore 144 [_, _, _, _, _, _, _, _, _, _, _, _, _, _] dL_isActed_142 rfl (by decide) rfl ?_
      refine j_iload 1 146 dL_isActed_144 rfl rfl ?_
      refine j_if_eq 169 149 dL_isActed_146 rfl (by decide) (by decide) (fun h => absurd h (by decide)) (fun _ => ?_)
      refine j_iload 12 151 dL_isActed_149 rfl rfl ?_
      refine j_iconst 152 dL_isActed_151 rfl ?_
      refine j_icmp_gt 165 155 dL_isActed_152 rfl (by decide) (by omega) (by omega) (fun h_152 => ?_) (fun h => absurd h (by omega))
      refine j_iconst 166 dL_isActed_165 rfl ?_
      refine j_goto 170 dL_isActed_166 (by decide) ?_
      refine j_xzret ((S1, H1, P1, v1), (jU (jU c (1 + c 0) ((50 + y % 251) * 10000 + (y / 251 % 101) * 10 + (y / 5 % 10))) 0 (jU c (1 + c 0) ((50 + y % 251) * 10000 + (y / 251 % 101) * 10 + (y / 5 % 10)) 0 + 1)), b, (jU n 11 (n 11 + 1)), u, e) dL_isActed_170 rfl (by rfl) (by decide) ?_ rfl
      exact k1
