theorem aPln_9 {Ns : Nat} {xs : Nat → Int32} {S : k_S} {P : Nat → Nat} (h : LF Ns xs S P) {v : Nat} (hv : v ≤ 3) : aPln (S.2.1 25) (S.1 803) (nI 9) (nI v) = nI (P 9) := by
  rw [aPln, if_pos ⟨by decide, by rw [h.1]; exact (pW_N (by omega) (by decide)).mpr (by omega)⟩, ix_nI (by decide)]
  exact h.2.2.2.1 9 (by decide)
theorem aFit_00 {S : k_S} (h : S.1 1003 = nI 2) {d : Nat} (hd : d < 120) : aFit (vC S) (S.1 1003) (nI d) (nI 0) = fitv (vC S) 0 d := by
  have q := aFit_0 h (r := 0) (d := d) (by decide) hd
  rw [Nat.mul_zero, Nat.zero_add] at q
  exact q
theorem aFit_01 {S : k_S} (h : S.1 1003 = nI 2) {d : Nat} (hd : d < 120) : aFit (vC S) (S.1 1003) (nI (1000 + d)) (nI 0) = fitv (vC S) 1 d := aFit_0 h (r := 1) (d := d) (by decide) hd
set_option maxHeartbeats 2000000 in
theorem t419 {nm : String} {Ns : Nat} {xs : Nat → Int32} (hN : Ns ≤ 260) {S : k_S} {g : k_H} (hF : LF Ns xs S (plN Ns xs)) {n : Nat} (hn : S.1 1656 = nI n) (h40 : n ≤ 40) : AW (some (Ns, xs)) (Mn nm) 12 0 0 419 [.retAddr 0, .ref 0, .null, .null, .null, .null, .null, .null, .null, .null] [] (hp S ++ g) PoL := by
  have hp9 := b_pl Ns xs 9
  have hlo := lo_lt 1 (scr Ns xs 10)
  obtain ⟨v, hv⟩ : ∃ v, (plN Ns xs 9 + 1 + lo 1 (scr Ns xs 10)) % 4 = v := ⟨_, rfl⟩
  have hv3 : v ≤ 3 := by omega
  obtain ⟨m, T, hm, h2, eT, hT, t1, t2, t3, t4, hU, u1, u2, u3, u4, hW, w1⟩ := ch_run hF hn h40 hv3 (by omega)
  refine k_aloadT eL_law_419 rfl ?_
  refine k_bipush (v := nI 9) eL_law_420 (by decide) ?_
  refine k_callSX (M' := ML_plan) (bc' := 0) (bs' := 0) (bc2 := 0) (bs2 := 0) eL_law_422 mL_52 wL_plan sL_plan rfl (pL_plan (d := 9) hN (by omega)) (by decide) ⟨rfl, rfl⟩ (Nat.le_of_ble_eq_true rfl) ?_
  rintro r h1 ⟨rfl, e1⟩
  obtain rfl := e1.symm
  refine k_istore (L2 := [_, _, _, _, _, _, _, _, _, _]) eL_law_425 (Nat.le_of_ble_eq_true rfl) rfl ?_
  refine k_iload eL_law_427 rfl ?_
  refine k_iconst (v := nI 1) eL_law_429 (by decide) ?_
  refine k_iaddN eL_law_430 ?_
  refine k_aloadT eL_law_431 rfl ?_
  refine k_bipush (v := nI 10) eL_law_432 (by decide) ?_
  refine k_callSX (M' := ML_at) (bc' := 0) (bs' := 0) (bc2 := 0) (bs2 := 0) eL_law_434 mL_70 wL_at sL_at rfl (pL_at (k := 10) hN (by omega)) (by decide) ⟨rfl, rfl⟩ (Nat.le_of_ble_eq_true rfl) ?_
  rintro r h1 ⟨rfl, e1⟩
  obtain rfl := e1.symm
  refine k_iconst (v := nI 1) eL_law_437 (by decide) ?_
  refine k_iand eL_law_438 ?_
  refine k_topi (nI (lo 1 (scr Ns xs 10))) (lo_and 1 _ (by decide)) ?_
  refine k_iaddN eL_law_439 ?_
  refine k_iconst (v := nI 4) eL_law_440 (by decide) ?_
  refine k_iremN eL_law_441 (by omega) (by omega) (by omega) ?_
  refine k_topi (nI v) (by rw [hv]) ?_
  refine k_istore (L2 := [_, _, _, _, _, _, _, _, _, _]) eL_law_442 (Nat.le_of_ble_eq_true rfl) rfl ?_
  refine k_bipush (v := nI 40) eL_law_444 (by decide) ?_
  refine k_aload_n eL_law_446 rfl ?_
  refine k_bipush (v := nI 6) eL_law_447 (by decide) ?_
  refine cG1 (M' := MX11_count) eL_law_449 mL_137 wX11_count vX11_count ⟨_, _, _, rfl, rfl, rfl⟩ rfl (pX11_count6 (S := S)) (by decide) (Nat.le_of_ble_eq_true rfl) ?_
  refine k_topi (nI n) hn ?_
  refine k_iconst (v := nI 1) eL_law_452 (by decide) ?_
  refine k_iaddN eL_law_453 ?_
  refine k_mmin eL_law_454 mL_140 (by decide) (Nat.le_of_ble_eq_true rfl) ?_
  refine k_topi (nI (m + 1)) (by rw [mn_nI (by omega) (by omega), h2]) ?_
  refine k_istore (L2 := [_, _, _, _, _, _, _, _, _, _]) eL_law_457 (Nat.le_of_ble_eq_true rfl) rfl ?_
  refine k_aload_n eL_law_459 rfl ?_
  refine k_bipush (v := nI 30) eL_law_460 (by decide) ?_
  refine k_iconst (v := nI 0) eL_law_462 (by decide) ?_
  refine cG1 (M' := MX11_fit) eL_law_463 mL_125 wX11_fit vX11_fit ⟨_, _, _, rfl, rfl, rfl⟩ rfl (pX11_fit (S := S) rfl hF.pl.1 hF.2.1 (by decide) (nI (30)) (nI 0)) (by decide) (Nat.le_of_ble_eq_true rfl) ?_
  refine k_topi ((fitv (vC S) 0 30)) (aFit_00 hF.2.1 (by decide)) ?_
  refine k_istore (L2 := [_, _, _, _, _, _, _, _, _, _]) eL_law_466 (Nat.le_of_ble_eq_true rfl) rfl ?_
  refine k_aload_n eL_law_468 rfl ?_
  refine k_bipush (v := nI 9) eL_law_469 (by decide) ?_
  refine k_iload eL_law_471 rfl ?_
  refine cG1 (M' := MX11_plan) eL_law_473 mL_55 wX11_plan vX11_plan ⟨_, _, _, rfl, rfl, rfl⟩ rfl (pX11_plan (S := S) hn h40 (nI 9) (nI v)) (by decide) (Nat.le_of_ble_eq_true rfl) ?_
  rw [eT]
  refine k_topi (nI (plN Ns xs 9)) (aPln_9 hF hv3) ?_
  refine k_iload eL_law_476 rfl ?_
  refine k_icmp_neN 554 eL_law_478 (by decide) (by omega) (by omega) (fun c_478 => by exfalso; omega) (fun c_478 => ?_)
  refine k_aload_n eL_law_481 rfl ?_
  refine k_bipush (v := nI 30) eL_law_482 (by decide) ?_
  refine k_iconst (v := nI 0) eL_law_484 (by decide) ?_
  refine cG1 (M' := MX11_fit) eL_law_485 mL_125 wX11_fit vX11_fit ⟨_, _, _, rfl, rfl, rfl⟩ rfl (pX11_fit (S := T) rfl hT.pl.1 hT.2.1 (by decide) (nI (30)) (nI 0)) (by decide) (Nat.le_of_ble_eq_true rfl) ?_
  refine k_topi ((fitv (vC T) 0 30)) (aFit_00 hT.2.1 (by decide)) ?_
  refine k_iload eL_law_488 rfl ?_
  refine k_isub eL_law_490 ?_
  refine k_aloadT eL_law_491 rfl ?_
  refine k_iconst (v := nI 0) eL_law_492 (by decide) ?_
  refine k_iload eL_law_493 rfl ?_
  refine k_bipush (v := nI 21) eL_law_495 (by decide) ?_
  refine k_callSX (M' := ML_points) (bc' := 0) (bs' := 0) (bc2 := 0) (bs2 := 0) eL_law_497 mL_109 wL_points sL_points rfl (pL_points (r := 0) (w := v) (k := 21) hN (by decide) (by omega) (by decide)) (by decide) ⟨rfl, rfl⟩ (Nat.le_of_ble_eq_true rfl) ?_
  rintro r h1 ⟨rfl, e1⟩
  obtain rfl := e1.symm
  refine k_aloadT eL_law_500 rfl ?_
  refine k_iconst (v := nI 0) eL_law_501 (by decide) ?_
  refine k_iload eL_law_502 rfl ?_
  refine k_bipush (v := nI 21) eL_law_504 (by decide) ?_
  refine k_callSX (M' := ML_points) (bc' := 0) (bs' := 0) (bc2 := 0) (bs2 := 0) eL_law_506 mL_109 wL_points sL_points rfl (pL_points (r := 0) (w := plN Ns xs 9) (k := 21) hN (by decide) (by omega) (by decide)) (by decide) ⟨rfl, rfl⟩ (Nat.le_of_ble_eq_true rfl) ?_
  rintro r h1 ⟨rfl, e1⟩
  obtain rfl := e1.symm
  refine k_isub eL_law_509 ?_
  refine k_icmp_ne 554 eL_law_510 (by decide) (fun c_510 => by exact absurd (fit_ch hF hT) c_510) (fun c_510 => ?_)
  refine k_aload_n eL_law_513 rfl ?_
  refine cG1 (M' := MX11_undo) eL_law_514 mL_143 wX11_undo vX11_undo ⟨_, _, _, rfl, rfl, rfl⟩ rfl (pX11_undo0 (S := T) (n := m) (p := 9) (u := 0) t1 hm t2 (by decide) t3 t4 (by decide)) (by decide) (Nat.le_of_ble_eq_true rfl) ?_
  refine k_heap (h2 := hp (unS T m) ++ g) rfl ?_
  refine k_topi (nI m) rfl ?_
  refine k_iload eL_law_517 rfl ?_
  refine k_iconst (v := nI 1) eL_law_519 (by decide) ?_
  refine k_isubN eL_law_520 (by omega) ?_
  refine k_icmp_neN 554 eL_law_521 (by decide) (by omega) (by omega) (fun c_521 => by exfalso; omega) (fun c_521 => ?_)
  refine k_aload_n eL_law_524 rfl ?_
  refine k_bipush (v := nI 30) eL_law_525 (by decide) ?_
  refine k_iconst (v := nI 0) eL_law_527 (by decide) ?_
  refine cG1 (M' := MX11_fit) eL_law_528 mL_125 wX11_fit vX11_fit ⟨_, _, _, rfl, rfl, rfl⟩ rfl (pX11_fit (S := unS T m) rfl hU.pl.1 hU.2.1 (by decide) (nI (30)) (nI 0)) (by decide) (Nat.le_of_ble_eq_true rfl) ?_
  refine k_topi ((fitv (vC S) 0 30)) ((aFit_00 hU.2.1 (by decide)).trans ((fitv_L hU (by decide) (by decide)).trans (fitv_L hF (by decide) (by decide)).symm)) ?_
  refine k_iload eL_law_531 rfl ?_
  refine k_icmp_ne 554 eL_law_533 (by decide) (fun c_533 => by exact absurd rfl c_533) (fun c_533 => ?_)
  refine k_aload_n eL_law_536 rfl ?_
  refine cG1 (M' := MX11_redo) eL_law_537 mL_146 wX11_redo vX11_redo ⟨_, _, _, rfl, rfl, rfl⟩ rfl (pX11_redo0 (S := unS T m) (n := m) (p := 9) (u := 0) u1 hm u2 (by decide) u3 u4 (by decide)) (by decide) (Nat.le_of_ble_eq_true rfl) ?_
  refine k_heap (h2 := hp (reS (unS T m) m) ++ g) rfl ?_
  refine k_topi (nI 0) rfl ?_
  refine k_if_neN 554 eL_law_540 (by decide) (by omega) (fun c_540 => by exfalso; omega) (fun c_540 => ?_)
  refine k_aload_n eL_law_543 rfl ?_
  refine k_bipush (v := nI 9) eL_law_544 (by decide) ?_
  refine cG1 (M' := MX11_of) eL_law_546 mL_131 wX11_of vX11_of ⟨_, _, _, rfl, rfl, rfl⟩ rfl (pX11_of (S := reS (unS T m) m) rfl (nI 9)) (by decide) (Nat.le_of_ble_eq_true rfl) ?_
  refine k_topi (nI v) (by rw [aOf_L hW (by decide), Pu_9]) ?_
  refine k_iload eL_law_549 rfl ?_
  refine k_icmp_eqN 556 eL_law_551 (by decide) (by omega) (by omega) (fun c_551 => ?_) (fun c_551 => by exfalso; omega)
  refine k_forget 4 (L2 := [_, _, _, _, _, _, _, _, _, _]) rfl ?_
  refine k_forget 5 (L2 := [_, _, _, _, _, _, _, _, _, _]) rfl ?_
  refine k_forget 6 (L2 := [_, _, _, _, _, _, _, _, _, _]) rfl ?_
  refine k_forget 7 (L2 := [_, _, _, _, _, _, _, _, _, _]) rfl ?_
  exact t556 hW w1 (by omega)
set_option maxHeartbeats 1000000 in
theorem t398 {nm : String} {Ns : Nat} {xs : Nat → Int32} (hN : Ns ≤ 260) {S : k_S} {g : k_H} (hF : LF Ns xs S (plN Ns xs)) {n : Nat} (hn : S.1 1656 = nI n) (h40 : n ≤ 40) : AW (some (Ns, xs)) (Mn nm) 12 0 0 398 [.retAddr 0, .ref 0, .int (nI (alN (vC S) 0 1 120)), .int (nI (alN (vC S) 1 0 120)), .null, .null, .null, .null, .null, .null] [] (hp S ++ g) PoL := by
  have h01 := alN_le (vC S) 0 1 120
  have h10 := alN_le (vC S) 1 0 120
  refine k_aload_n eL_law_398 rfl ?_
  refine k_iconst (v := nI 1) eL_law_399 (by decide) ?_
  refine cG1 (M' := MX11_alike) eL_law_400 mL_134 wX11_alike vX11_alike ⟨_, _, _, rfl, rfl, rfl⟩ rfl (pX11_alike (S := S) rfl hF.pl.1 hF.2.1 (by decide) (nI 1)) (by decide) (Nat.le_of_ble_eq_true rfl) ?_
  refine k_topi (nI (alN (vC S) 0 1 120)) (aAlk_L hF.2.1).1 ?_
  refine k_iload_n eL_law_403 rfl ?_
  refine k_icmp_neN 417 eL_law_404 (by decide) (by omega) (by omega) (fun c_404 => by exfalso; omega) (fun c_404 => ?_)
  refine k_aload_n eL_law_407 rfl ?_
  refine k_bipush (v := nI 10) eL_law_408 (by decide) ?_
  refine cG1 (M' := MX11_alike) eL_law_410 mL_134 wX11_alike vX11_alike ⟨_, _, _, rfl, rfl, rfl⟩ rfl (pX11_alike (S := S) rfl hF.pl.1 hF.2.1 (by decide) (nI 10)) (by decide) (Nat.le_of_ble_eq_true rfl) ?_
  refine k_topi (nI (alN (vC S) 1 0 120)) (aAlk_L hF.2.1).2 ?_
  refine k_iload_n eL_law_413 rfl ?_
  refine k_icmp_eqN 419 eL_law_414 (by decide) (by omega) (by omega) (fun c_414 => ?_) (fun c_414 => by exfalso; omega)
  refine k_forget 2 (L2 := [_, _, _, _, _, _, _, _, _, _]) rfl ?_
  refine k_forget 3 (L2 := [_, _, _, _, _, _, _, _, _, _]) rfl ?_
  exact t419 hN hF hn h40
set_option maxHeartbeats 2000000 in
theorem l310 {nm : String} {Ns : Nat} {xs : Nat → Int32} (hN : Ns ≤ 260) {S : k_S} {g : k_H} (hF : LF Ns xs S (plN Ns xs)) {n : Nat} (hn : S.1 1656 = nI n) (h40 : n ≤ 40) : ∀ (n9 d : Nat), d + n9 = 120 → AW (some (Ns, xs)) (Mn nm) 12 0 0 310 [.retAddr 0, .ref 0, .int (nI (alN (vC S) 0 1 d)), .int (nI (alN (vC S) 1 0 d)), .int (nI d), .null, .null, .null, .null, .null] [] (hp S ++ g) PoL := by
  intro n9
  induction n9 with
  | zero =>
    intro d hj
    obtain rfl : d = 120 := by omega
    refine k_iload eL_law_310 rfl ?_
    refine k_bipush (v := nI 120) eL_law_312 (by decide) ?_
    refine k_icmp_geN 398 eL_law_314 (by decide) (by omega) (by omega) (fun c_314 => ?_) (fun c_314 => by exfalso; omega)
    refine k_forget 4 (L2 := [_, _, _, _, _, _, _, _, _, _]) rfl ?_
    exact t398 hN hF hn h40
  | succ n9 ih =>
    intro d hj
    have hp := b_pl Ns xs d
    have h01 := alN_le (vC S) 0 1 d
    have h10 := alN_le (vC S) 1 0 d
    refine k_iload eL_law_310 rfl ?_
    refine k_bipush (v := nI 120) eL_law_312 (by decide) ?_
    refine k_icmp_geN 398 eL_law_314 (by decide) (by omega) (by omega) (fun c_314 => by exfalso; omega) (fun c_314 => ?_)
    refine k_iload_n eL_law_317 rfl ?_
    refine k_aload_n eL_law_318 rfl ?_
    refine k_iload eL_law_319 rfl ?_
    refine k_iconst (v := nI 0) eL_law_321 (by decide) ?_
    refine cG1 (M' := MX11_fit) eL_law_322 mL_125 wX11_fit vX11_fit ⟨_, _, _, rfl, rfl, rfl⟩ rfl (pX11_fit (S := S) rfl hF.pl.1 hF.2.1 (by decide) (nI (d)) (nI 0)) (by decide) (Nat.le_of_ble_eq_true rfl) ?_
    refine k_topi ((fitv (vC S) 0 d)) (aFit_00 hF.2.1 (by omega)) ?_
    refine k_aload_n eL_law_325 rfl ?_
    refine k_sipush (v := nI 1000) eL_law_326 (by decide) ?_
    refine k_iload eL_law_329 rfl ?_
    refine k_iaddN eL_law_331 ?_
    refine k_iconst (v := nI 0) eL_law_332 (by decide) ?_
    refine cG1 (M' := MX11_fit) eL_law_333 mL_125 wX11_fit vX11_fit ⟨_, _, _, rfl, rfl, rfl⟩ rfl (pX11_fit (S := S) rfl hF.pl.1 hF.2.1 (by decide) (nI (1000 + d)) (nI 0)) (by decide) (Nat.le_of_ble_eq_true rfl) ?_
    refine k_topi ((fitv (vC S) 1 d)) (aFit_01 hF.2.1 (by omega)) ?_
    refine k_icmp_le 343 eL_law_336 (by decide) (fun c_336 => ?_) (fun c_336 => ?_)
    · refine k_iconst (v := nI 0) eL_law_343 (by decide) ?_
      refine k_iaddN eL_law_344 ?_
      refine k_istore_n (L2 := [_, _, _, _, _, _, _, _, _, _]) eL_law_345 (Nat.le_of_ble_eq_true rfl) rfl ?_
      refine k_iload_n eL_law_346 rfl ?_
      refine k_aload_n eL_law_347 rfl ?_
      refine k_sipush (v := nI 1000) eL_law_348 (by decide) ?_
      refine k_iload eL_law_351 rfl ?_
      refine k_iaddN eL_law_353 ?_
      refine k_iconst (v := nI 0) eL_law_354 (by decide) ?_
      refine cG1 (M' := MX11_fit) eL_law_355 mL_125 wX11_fit vX11_fit ⟨_, _, _, rfl, rfl, rfl⟩ rfl (pX11_fit (S := S) rfl hF.pl.1 hF.2.1 (by decide) (nI (1000 + d)) (nI 0)) (by decide) (Nat.le_of_ble_eq_true rfl) ?_
      refine k_topi ((fitv (vC S) 1 d)) (aFit_01 hF.2.1 (by omega)) ?_
      refine k_aload_n eL_law_358 rfl ?_
      refine k_iload eL_law_359 rfl ?_
      refine k_iconst (v := nI 0) eL_law_361 (by decide) ?_
      refine cG1 (M' := MX11_fit) eL_law_362 mL_125 wX11_fit vX11_fit ⟨_, _, _, rfl, rfl, rfl⟩ rfl (pX11_fit (S := S) rfl hF.pl.1 hF.2.1 (by decide) (nI (d)) (nI 0)) (by decide) (Nat.le_of_ble_eq_true rfl) ?_
      refine k_topi ((fitv (vC S) 0 d)) (aFit_00 hF.2.1 (by omega)) ?_
      refine k_icmp_le 372 eL_law_365 (by decide) (fun c_365 => ?_) (fun c_365 => ?_)
      · refine k_iconst (v := nI 0) eL_law_372 (by decide) ?_
        refine k_iaddN eL_law_373 ?_
        refine k_istore_n (L2 := [_, _, _, _, _, _, _, _, _, _]) eL_law_374 (Nat.le_of_ble_eq_true rfl) rfl ?_
        refine k_aload_n eL_law_375 rfl ?_
        refine k_iload eL_law_376 rfl ?_
        refine cG1 (M' := MX11_of) eL_law_378 mL_131 wX11_of vX11_of ⟨_, _, _, rfl, rfl, rfl⟩ rfl (pX11_of (S := S) rfl (nI d)) (by decide) (Nat.le_of_ble_eq_true rfl) ?_
        refine k_topi (nI (plN Ns xs d)) (aOf_L hF (by omega)) ?_
        refine k_aloadT eL_law_381 rfl ?_
        refine k_iload eL_law_382 rfl ?_
        refine k_callSX (M' := ML_plan) (bc' := 0) (bs' := 0) (bc2 := 0) (bs2 := 0) eL_law_384 mL_52 wL_plan sL_plan rfl (pL_plan (d := d) hN (by omega)) (by decide) ⟨rfl, rfl⟩ (Nat.le_of_ble_eq_true rfl) ?_
        rintro r h1 ⟨rfl, e1⟩
        obtain rfl := e1.symm
        refine k_icmp_eqN 392 eL_law_387 (by decide) (by omega) (by omega) (fun c_387 => ?_) (fun c_387 => by exfalso; omega)
        refine k_iincN (g := 1) (a := d) (L2 := [_, _, _, _, _, _, _, _, _, _]) eL_law_392 (Nat.le_of_ble_eq_true rfl) rfl rfl ?_
        refine k_goto 310 eL_law_395 (by decide) ?_
        have q := ih (d + 1) (by omega)
        rw [alN, alN] at q
        first | rw [if_pos (Int32.not_le.mp c_336)] at q | rw [if_neg (Int32.not_lt.mpr c_336)] at q
        first | rw [if_pos (Int32.not_le.mp c_365)] at q | rw [if_neg (Int32.not_lt.mpr c_365)] at q
        exact q
      refine k_iconst (v := nI 1) eL_law_368 (by decide) ?_
      refine k_goto 373 eL_law_369 (by decide) ?_
      refine k_iaddN eL_law_373 ?_
      refine k_istore_n (L2 := [_, _, _, _, _, _, _, _, _, _]) eL_law_374 (Nat.le_of_ble_eq_true rfl) rfl ?_
      refine k_aload_n eL_law_375 rfl ?_
      refine k_iload eL_law_376 rfl ?_
      refine cG1 (M' := MX11_of) eL_law_378 mL_131 wX11_of vX11_of ⟨_, _, _, rfl, rfl, rfl⟩ rfl (pX11_of (S := S) rfl (nI d)) (by decide) (Nat.le_of_ble_eq_true rfl) ?_
      refine k_topi (nI (plN Ns xs d)) (aOf_L hF (by omega)) ?_
      refine k_aloadT eL_law_381 rfl ?_
      refine k_iload eL_law_382 rfl ?_
      refine k_callSX (M' := ML_plan) (bc' := 0) (bs' := 0) (bc2 := 0) (bs2 := 0) eL_law_384 mL_52 wL_plan sL_plan rfl (pL_plan (d := d) hN (by omega)) (by decide) ⟨rfl, rfl⟩ (Nat.le_of_ble_eq_true rfl) ?_
      rintro r h1 ⟨rfl, e1⟩
      obtain rfl := e1.symm
      refine k_icmp_eqN 392 eL_law_387 (by decide) (by omega) (by omega) (fun c_387 => ?_) (fun c_387 => by exfalso; omega)
      refine k_iincN (g := 1) (a := d) (L2 := [_, _, _, _, _, _, _, _, _, _]) eL_law_392 (Nat.le_of_ble_eq_true rfl) rfl rfl ?_
      refine k_goto 310 eL_law_395 (by decide) ?_
      have q := ih (d + 1) (by omega)
      rw [alN, alN] at q
      first | rw [if_pos (Int32.not_le.mp c_336)] at q | rw [if_neg (Int32.not_lt.mpr c_336)] at q
      first | rw [if_pos (Int32.not_le.mp c_365)] at q | rw [if_neg (Int32.not_lt.mpr c_365)] at q
      exact q
    refine k_iconst (v := nI 1) eL_law_339 (by decide) ?_
    refine k_goto 344 eL_law_340 (by decide) ?_
    refine k_iaddN eL_law_344 ?_
    refine k_istore_n (L2 := [_, _, _, _, _, _, _, _, _, _]) eL_law_345 (Nat.le_of_ble_eq_true rfl) rfl ?_
    refine k_iload_n eL_law_346 rfl ?_
    refine k_aload_n eL_law_347 rfl ?_
    refine k_sipush (v := nI 1000) eL_law_348 (by decide) ?_
    refine k_iload eL_law_351 rfl ?_
    refine k_iaddN eL_law_353 ?_
    refine k_iconst (v := nI 0) eL_law_354 (by decide) ?_
    refine cG1 (M' := MX11_fit) eL_law_355 mL_125 wX11_fit vX11_fit ⟨_, _, _, rfl, rfl, rfl⟩ rfl (pX11_fit (S := S) rfl hF.pl.1 hF.2.1 (by decide) (nI (1000 + d)) (nI 0)) (by decide) (Nat.le_of_ble_eq_true rfl) ?_
    refine k_topi ((fitv (vC S) 1 d)) (aFit_01 hF.2.1 (by omega)) ?_
    refine k_aload_n eL_law_358 rfl ?_
    refine k_iload eL_law_359 rfl ?_
    refine k_iconst (v := nI 0) eL_law_361 (by decide) ?_
    refine cG1 (M' := MX11_fit) eL_law_362 mL_125 wX11_fit vX11_fit ⟨_, _, _, rfl, rfl, rfl⟩ rfl (pX11_fit (S := S) rfl hF.pl.1 hF.2.1 (by decide) (nI (d)) (nI 0)) (by decide) (Nat.le_of_ble_eq_true rfl) ?_
    refine k_topi ((fitv (vC S) 0 d)) (aFit_00 hF.2.1 (by omega)) ?_
    refine k_icmp_le 372 eL_law_365 (by decide) (fun c_365 => ?_) (fun c_365 => ?_)
    · refine k_iconst (v := nI 0) eL_law_372 (by decide) ?_
      refine k_iaddN eL_law_373 ?_
      refine k_istore_n (L2 := [_, _, _, _, _, _, _, _, _, _]) eL_law_374 (Nat.le_of_ble_eq_true rfl) rfl ?_
      refine k_aload_n eL_law_375 rfl ?_
      refine k_iload eL_law_376 rfl ?_
      refine cG1 (M' := MX11_of) eL_law_378 mL_131 wX11_of vX11_of ⟨_, _, _, rfl, rfl, rfl⟩ rfl (pX11_of (S := S) rfl (nI d)) (by decide) (Nat.le_of_ble_eq_true rfl) ?_
      refine k_topi (nI (plN Ns xs d)) (aOf_L hF (by omega)) ?_
      refine k_aloadT eL_law_381 rfl ?_
      refine k_iload eL_law_382 rfl ?_
      refine k_callSX (M' := ML_plan) (bc' := 0) (bs' := 0) (bc2 := 0) (bs2 := 0) eL_law_384 mL_52 wL_plan sL_plan rfl (pL_plan (d := d) hN (by omega)) (by decide) ⟨rfl, rfl⟩ (Nat.le_of_ble_eq_true rfl) ?_
      rintro r h1 ⟨rfl, e1⟩
      obtain rfl := e1.symm
      refine k_icmp_eqN 392 eL_law_387 (by decide) (by omega) (by omega) (fun c_387 => ?_) (fun c_387 => by exfalso; omega)
      refine k_iincN (g := 1) (a := d) (L2 := [_, _, _, _, _, _, _, _, _, _]) eL_law_392 (Nat.le_of_ble_eq_true rfl) rfl rfl ?_
      refine k_goto 310 eL_law_395 (by decide) ?_
      have q := ih (d + 1) (by omega)
      rw [alN, alN] at q
      first | rw [if_pos (Int32.not_le.mp c_336)] at q | rw [if_neg (Int32.not_lt.mpr c_336)] at q
      first | rw [if_pos (Int32.not_le.mp c_365)] at q | rw [if_neg (Int32.not_lt.mpr c_365)] at q
      exact q
    refine k_iconst (v := nI 1) eL_law_368 (by decide) ?_
    refine k_goto 373 eL_law_369 (by decide) ?_
    refine k_iaddN eL_law_373 ?_
    refine k_istore_n (L2 := [_, _, _, _, _, _, _, _, _, _]) eL_law_374 (Nat.le_of_ble_eq_true rfl) rfl ?_
    refine k_aload_n eL_law_375 rfl ?_
    refine k_iload eL_law_376 rfl ?_
    refine cG1 (M' := MX11_of) eL_law_378 mL_131 wX11_of vX11_of ⟨_, _, _, rfl, rfl, rfl⟩ rfl (pX11_of (S := S) rfl (nI d)) (by decide) (Nat.le_of_ble_eq_true rfl) ?_
    refine k_topi (nI (plN Ns xs d)) (aOf_L hF (by omega)) ?_
    refine k_aloadT eL_law_381 rfl ?_
    refine k_iload eL_law_382 rfl ?_
    refine k_callSX (M' := ML_plan) (bc' := 0) (bs' := 0) (bc2 := 0) (bs2 := 0) eL_law_384 mL_52 wL_plan sL_plan rfl (pL_plan (d := d) hN (by omega)) (by decide) ⟨rfl, rfl⟩ (Nat.le_of_ble_eq_true rfl) ?_
    rintro r h1 ⟨rfl, e1⟩
    obtain rfl := e1.symm
    refine k_icmp_eqN 392 eL_law_387 (by decide) (by omega) (by omega) (fun c_387 => ?_) (fun c_387 => by exfalso; omega)
    refine k_iincN (g := 1) (a := d) (L2 := [_, _, _, _, _, _, _, _, _, _]) eL_law_392 (Nat.le_of_ble_eq_true rfl) rfl rfl ?_
    refine k_goto 310 eL_law_395 (by decide) ?_
    have q := ih (d + 1) (by omega)
    rw [alN, alN] at q
    first | rw [if_pos (Int32.not_le.mp c_336)] at q | rw [if_neg (Int32.not_lt.mpr c_336)] at q
    first | rw [if_pos (Int32.not_le.mp c_365)] at q | rw [if_neg (Int32.not_lt.mpr c_365)] at q
    exact q
