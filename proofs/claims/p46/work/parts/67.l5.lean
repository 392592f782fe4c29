theorem b144 {Ns : Nat} {xs : Nat → Int32} (hN : Ns ≤ 260) {S : k_S} {c : Nat} (hB : Bd Ns xs S 4 2 40) : AW (some (Ns, xs)) ML_build 8 11 286 144 [.retAddr 0, .ref 0, .int (nI c)] [] (hp S) (BdQ Ns xs) := by
  have m1 := lo_lt 2 (shr 1 (scr Ns xs 0))
  refine k_aloadT eL_build_144 rfl ?_
  refine k_iconst (v := nI 0) eL_build_145 (by decide) ?_
  refine k_callSX (M' := ML_at) (bc' := 0) (bs' := 0) (bc2 := 11) (bs2 := 286) eL_build_146 mL_70 wL_at sL_at rfl (pL_at (k := 0) hN (by omega)) (by decide) ⟨rfl, rfl⟩ (Nat.le_of_ble_eq_true rfl) ?_
  rintro r h1 ⟨rfl, e1⟩
  obtain rfl := e1.symm
  refine k_iconst (v := nI 1) eL_build_149 (by decide) ?_
  refine k_ishr eL_build_150 ?_
  refine k_topi ((shr 1 (scr Ns xs 0))) rfl ?_
  refine k_iconst (v := nI 3) eL_build_151 (by decide) ?_
  refine k_iand eL_build_152 ?_
  refine k_topi (nI (lo 2 (shr 1 (scr Ns xs 0)))) (lo_and 2 _ (by decide)) ?_
  refine k_iconst (v := nI 3) eL_build_153 (by decide) ?_
  refine k_icmp_eqN 240 eL_build_154 (by decide) (by omega) (by omega) (fun c_154 => ?_) (fun c_154 => ?_)
  · refine k_forget 2 (L2 := [_, _, _]) rfl ?_
    refine AW.room (bc2 := 0) (bs2 := 0) (by omega) (by omega) ?_
    refine k_heap (h2 := hp S ++ []) (List.append_nil _).symm ?_
    exact b240 hN hB
  refine k_forget 2 (L2 := [_, _, _]) rfl ?_
  exact b157 hN hB
set_option maxHeartbeats 1000000 in
theorem b115 {Ns : Nat} {xs : Nat → Int32} (hN : Ns ≤ 260) : ∀ (n c : Nat) (S : k_S), c + n = coN9 Ns xs → Bd Ns xs S 4 2 40 → AW (some (Ns, xs)) ML_build 8 11 286 115 [.retAddr 0, .ref 0, .int (nI c)] [] (hp S) (BdQ Ns xs) := by
  intro n
  induction n with
  | zero =>
    intro c S hj hB
    have hb := b_co Ns xs
    refine k_iload_n eL_build_115 rfl ?_
    refine k_aloadT eL_build_116 rfl ?_
    refine k_callSX (M' := ML_counting) (bc' := 0) (bs' := 0) (bc2 := 11) (bs2 := 286) eL_build_117 mL_57 wL_counting sL_counting rfl (pL_counting hN) (by decide) ⟨rfl, rfl⟩ (Nat.le_of_ble_eq_true rfl) ?_
    rintro r h1 ⟨rfl, e1⟩
    obtain rfl := e1.symm
    refine k_icmp_geN 144 eL_build_120 (by decide) (by omega) (by omega) (fun c_120 => ?_) (fun c_120 => by exfalso; omega)
    exact b144 hN hB
  | succ n ih =>
    intro c S hj hB
    have hb := b_co Ns xs
    obtain ⟨dn, h4, hdn⟩ := hB.2.2.2.2.1
    refine k_iload_n eL_build_115 rfl ?_
    refine k_aloadT eL_build_116 rfl ?_
    refine k_callSX (M' := ML_counting) (bc' := 0) (bs' := 0) (bc2 := 11) (bs2 := 286) eL_build_117 mL_57 wL_counting sL_counting rfl (pL_counting hN) (by decide) ⟨rfl, rfl⟩ (Nat.le_of_ble_eq_true rfl) ?_
    rintro r h1 ⟨rfl, e1⟩
    obtain rfl := e1.symm
    refine k_icmp_geN 144 eL_build_120 (by decide) (by omega) (by omega) (fun c_120 => by exfalso; omega) (fun c_120 => ?_)
    refine k_aload_n eL_build_123 rfl ?_
    refine k_aloadT eL_build_124 rfl ?_
    refine k_iload_n eL_build_125 rfl ?_
    refine k_callSX (M' := ML_day) (bc' := 0) (bs' := 0) (bc2 := 11) (bs2 := 286) eL_build_126 mL_61 wL_day sL_day rfl (pL_day (c := c) hN (by omega)) (by decide) ⟨rfl, rfl⟩ (Nat.le_of_ble_eq_true rfl) ?_
    rintro r h1 ⟨rfl, e1⟩
    obtain rfl := e1.symm
    refine k_aloadT eL_build_129 rfl ?_
    refine k_iload_n eL_build_130 rfl ?_
    refine k_callSX (M' := ML_weight) (bc' := 0) (bs' := 0) (bc2 := 11) (bs2 := 286) eL_build_131 mL_64 wL_weight sL_weight rfl (pL_weight (c := c) hN (by omega)) (by decide) ⟨rfl, rfl⟩ (Nat.le_of_ble_eq_true rfl) ?_
    rintro r h1 ⟨rfl, e1⟩
    obtain rfl := e1.symm
    refine cV1 (M' := MX11_counts) eL_build_134 mL_67 wX11_counts vX11_counts ⟨_, _, _, rfl, rfl, rfl⟩ rfl (pX11_counts hdn h4 (nI (daN Ns xs c)) (nI (weN Ns xs c))) (by decide) (Nat.le_of_ble_eq_true rfl) ?_
    refine k_pop eL_build_137 rfl ?_
    refine k_iincN (g := 1) (a := c) (L2 := [_, _, _]) eL_build_138 (Nat.le_of_ble_eq_true rfl) rfl rfl ?_
    refine k_goto 115 eL_build_141 (by decide) ?_
    exact ih (c + 1) _ (by omega) (bd_cnt hB hdn h4 _ _)
set_option maxHeartbeats 1000000 in
theorem b90 {Ns : Nat} {xs : Nat → Int32} (hN : Ns ≤ 260) : ∀ (n D : Nat) (S : k_S), D + n = 40 → Bd Ns xs S 4 2 D → AW (some (Ns, xs)) ML_build 8 11 286 90 [.retAddr 0, .ref 0, .int (nI D)] [] (hp S) (BdQ Ns xs) := by
  intro n
  induction n with
  | zero =>
    intro D S hj hB
    have hb := b_co Ns xs
    refine k_iload_n eL_build_90 rfl ?_
    refine k_bipush (v := nI 40) eL_build_91 (by decide) ?_
    refine k_icmp_geN 113 eL_build_93 (by decide) (by omega) (by omega) (fun c_93 => ?_) (fun c_93 => by exfalso; omega)
    refine k_iconst (v := nI 0) eL_build_113 (by decide) ?_
    refine k_istore_n (L2 := [_, _, _]) eL_build_114 (Nat.le_of_ble_eq_true rfl) rfl ?_
    obtain rfl : D = 40 := by omega
    exact b115 hN (coN9 Ns xs) 0 S (by omega) hB
  | succ n ih =>
    intro D S hj hB
    obtain ⟨n9, h40, hn⟩ := hB.2.2.2.1
    refine k_iload_n eL_build_90 rfl ?_
    refine k_bipush (v := nI 40) eL_build_91 (by decide) ?_
    refine k_icmp_geN 113 eL_build_93 (by decide) (by omega) (by omega) (fun c_93 => by exfalso; omega) (fun c_93 => ?_)
    refine k_aload_n eL_build_96 rfl ?_
    refine k_iload_n eL_build_97 rfl ?_
    refine k_aloadT eL_build_98 rfl ?_
    refine k_iload_n eL_build_99 rfl ?_
    refine k_callSX (M' := ML_plan) (bc' := 0) (bs' := 0) (bc2 := 11) (bs2 := 286) eL_build_100 mL_52 wL_plan sL_plan rfl (pL_plan (d := D) hN (by omega)) (by decide) ⟨rfl, rfl⟩ (Nat.le_of_ble_eq_true rfl) ?_
    rintro r h1 ⟨rfl, e1⟩
    obtain rfl := e1.symm
    refine cV1 (M' := MX11_plan) eL_build_103 mL_55 wX11_plan vX11_plan ⟨_, _, _, rfl, rfl, rfl⟩ rfl (pX11_plan hn h40 (nI D) (nI (plN Ns xs D))) (by decide) (Nat.le_of_ble_eq_true rfl) ?_
    refine k_pop eL_build_106 rfl ?_
    refine k_iincN (g := 1) (a := D) (L2 := [_, _, _]) eL_build_107 (Nat.le_of_ble_eq_true rfl) rfl rfl ?_
    refine k_goto 90 eL_build_110 (by decide) ?_
    exact ih (D + 1) _ (by omega) (bd_plan hB hn h40 (by omega))
set_option maxHeartbeats 1000000 in
theorem b52 {Ns : Nat} {xs : Nat → Int32} (hN : Ns ≤ 260) : ∀ (n r : Nat) (S : k_S), r + n = 2 → Bd Ns xs S 4 r 0 → AW (some (Ns, xs)) ML_build 8 11 286 52 [.retAddr 0, .ref 0, .int (nI r)] [] (hp S) (BdQ Ns xs) := by
  intro n
  induction n with
  | zero =>
    intro r S hj hB
    have hb := b_co Ns xs
    refine k_iload_n eL_build_52 rfl ?_
    refine k_iconst (v := nI 2) eL_build_53 (by decide) ?_
    refine k_icmp_geN 88 eL_build_54 (by decide) (by omega) (by omega) (fun c_54 => ?_) (fun c_54 => by exfalso; omega)
    refine k_iconst (v := nI 0) eL_build_88 (by decide) ?_
    refine k_istore_n (L2 := [_, _, _]) eL_build_89 (Nat.le_of_ble_eq_true rfl) rfl ?_
    obtain rfl : r = 2 := by omega
    exact b90 hN 40 0 S (by omega) hB
  | succ n ih =>
    intro r S hj hB
    refine k_iload_n eL_build_52 rfl ?_
    refine k_iconst (v := nI 2) eL_build_53 (by decide) ?_
    refine k_icmp_geN 88 eL_build_54 (by decide) (by omega) (by omega) (fun c_54 => by exfalso; omega) (fun c_54 => ?_)
    refine k_aload_n eL_build_57 rfl ?_
    refine k_sipush (v := nI 1000) eL_build_58 (by decide) ?_
    refine k_aloadT eL_build_61 rfl ?_
    refine k_iload_n eL_build_62 rfl ?_
    refine k_callSX (M' := ML_fast) (bc' := 0) (bs' := 0) (bc2 := 11) (bs2 := 286) eL_build_63 mL_40 wL_fast sL_fast rfl (pL_fast (r := r) hN (by omega)) (by decide) ⟨rfl, rfl⟩ (Nat.le_of_ble_eq_true rfl) ?_
    rintro r h1 ⟨rfl, e1⟩
    obtain rfl := e1.symm
    refine k_imulN eL_build_66 ?_
    refine k_aloadT eL_build_67 rfl ?_
    refine k_iload_n eL_build_68 rfl ?_
    refine k_callSX (M' := ML_slow) (bc' := 0) (bs' := 0) (bc2 := 11) (bs2 := 286) eL_build_69 mL_43 wL_slow sL_slow rfl (pL_slow (r := r) hN (by omega)) (by decide) ⟨rfl, rfl⟩ (Nat.le_of_ble_eq_true rfl) ?_
    rintro r h1 ⟨rfl, e1⟩
    obtain rfl := e1.symm
    refine k_iaddN eL_build_72 ?_
    refine k_aloadT eL_build_73 rfl ?_
    refine k_iload_n eL_build_74 rfl ?_
    refine k_callSX (M' := ML_gift) (bc' := 0) (bs' := 0) (bc2 := 11) (bs2 := 286) eL_build_75 mL_46 wL_gift sL_gift rfl (pL_gift (r := r) hN (by omega)) (by decide) ⟨rfl, rfl⟩ (Nat.le_of_ble_eq_true rfl) ?_
    rintro r h1 ⟨rfl, e1⟩
    obtain rfl := e1.symm
    refine cV1 (M' := MX11_runner) eL_build_78 mL_49 wX11_runner vX11_runner ⟨_, _, _, rfl, rfl, rfl⟩ rfl (pX11_runner hB.2.1.1 (by omega) (nI (1000 * faN Ns xs r + slN Ns xs r)) (nI (giN Ns xs r))) (by decide) (Nat.le_of_ble_eq_true rfl) ?_
    refine k_pop eL_build_81 rfl ?_
    refine k_iincN (g := 1) (a := r) (L2 := [_, _, _]) eL_build_82 (Nat.le_of_ble_eq_true rfl) rfl rfl ?_
    refine k_goto 52 eL_build_85 (by decide) ?_
    exact ih (r + 1) _ (by omega) (bd_run hB (by omega))
set_option maxHeartbeats 1000000 in
theorem b10 {Ns : Nat} {xs : Nat → Int32} (hN : Ns ≤ 260) : ∀ (n w : Nat) (S : k_S), w + n = 4 → 1 ≤ w → Bd Ns xs S w 0 0 → AW (some (Ns, xs)) ML_build 8 11 286 10 [.retAddr 0, .ref 0, .int (nI w)] [] (hp S) (BdQ Ns xs) := by
  intro n
  induction n with
  | zero =>
    intro w S hj h1 hB
    have hb := b_co Ns xs
    refine k_iload_n eL_build_10 rfl ?_
    refine k_iconst (v := nI 4) eL_build_11 (by decide) ?_
    refine k_icmp_geN 50 eL_build_12 (by decide) (by omega) (by omega) (fun c_12 => ?_) (fun c_12 => by exfalso; omega)
    refine k_iconst (v := nI 0) eL_build_50 (by decide) ?_
    refine k_istore_n (L2 := [_, _, _]) eL_build_51 (Nat.le_of_ble_eq_true rfl) rfl ?_
    obtain rfl : w = 4 := by omega
    exact b52 hN 2 0 S (by omega) hB
  | succ n ih =>
    intro w S hj h1 hB
    refine k_iload_n eL_build_10 rfl ?_
    refine k_iconst (v := nI 4) eL_build_11 (by decide) ?_
    refine k_icmp_geN 50 eL_build_12 (by decide) (by omega) (by omega) (fun c_12 => by exfalso; omega) (fun c_12 => ?_)
    refine k_aload_n eL_build_15 rfl ?_
    refine k_sipush (v := nI 1000) eL_build_16 (by decide) ?_
    refine k_aloadT eL_build_19 rfl ?_
    refine k_iload_n eL_build_20 rfl ?_
    refine k_callSX (M' := ML_tires) (bc' := 0) (bs' := 0) (bc2 := 11) (bs2 := 286) eL_build_21 mL_24 wL_tires sL_tires rfl (pL_tires (w := w) hN (by omega)) (by decide) ⟨rfl, rfl⟩ (Nat.le_of_ble_eq_true rfl) ?_
    rintro r h1 ⟨rfl, e1⟩
    obtain rfl := e1.symm
    refine k_imulN eL_build_24 ?_
    refine k_bipush (v := nI 10) eL_build_25 (by decide) ?_
    refine k_aloadT eL_build_27 rfl ?_
    refine k_iload_n eL_build_28 rfl ?_
    refine k_callSX (M' := ML_strong) (bc' := 0) (bs' := 0) (bc2 := 11) (bs2 := 286) eL_build_29 mL_30 wL_strong sL_strong rfl (pL_strong (w := w) hN (by omega)) (by decide) ⟨rfl, rfl⟩ (Nat.le_of_ble_eq_true rfl) ?_
    rintro r h1 ⟨rfl, e1⟩
    obtain rfl := e1.symm
    refine k_imulN eL_build_32 ?_
    refine k_iaddN eL_build_33 ?_
    refine k_aloadT eL_build_34 rfl ?_
    refine k_iload_n eL_build_35 rfl ?_
    refine k_callSX (M' := ML_hours) (bc' := 0) (bs' := 0) (bc2 := 11) (bs2 := 286) eL_build_36 mL_33 wL_hours sL_hours rfl (pL_hours (w := w) hN (by omega)) (by decide) ⟨rfl, rfl⟩ (Nat.le_of_ble_eq_true rfl) ?_
    rintro r h1 ⟨rfl, e1⟩
    obtain rfl := e1.symm
    refine k_iaddN eL_build_39 ?_
    refine cV1 (M' := MX11_work) eL_build_40 mL_36 wX11_work vX11_work ⟨_, _, _, rfl, rfl, rfl⟩ rfl (pX11_work hB.1.1 h1 (by omega) (nI (1000 * tiN Ns xs w + 10 * stN Ns xs w + hoN Ns xs w))) (by decide) (Nat.le_of_ble_eq_true rfl) ?_
    refine k_pop eL_build_43 rfl ?_
    refine k_iincN (g := 1) (a := w) (L2 := [_, _, _]) eL_build_44 (Nat.le_of_ble_eq_true rfl) rfl rfl ?_
    refine k_goto 10 eL_build_47 (by decide) ?_
    exact ih (w + 1) _ (by omega) (by omega) (bd_work hB (by omega))
set_option maxHeartbeats 1000000 in
theorem pL_build {Ns : Nat} {xs : Nat → Int32} (hN : Ns ≤ 260) : SpX (some (Ns, xs)) 8 63 4701 ML_build [.retAddr 0] [] (BdQ Ns xs) := by
  refine SpX_of (by decide +kernel) (Nat.le_of_ble_eq_true rfl) ?_
  show AW (some (Ns, xs)) ML_build 8 63 4701 0 [.retAddr 0, .null, .null] [] [] _
  refine k_new (fs := [.null, .null, .null, .null, .null, .null, .null, .null, .null, .null, .null, .int 0, .null, .null, .int 0, .null]) (bc2 := 62) (bs2 := 4685) (h2' := hk_st) (a := 0) eL_build_0 clX11 cL_18 dvX11 ⟨rfl, rfl⟩ rfl rfl ?_
  refine k_dup eL_build_3 rfl ?_
  refine k_callI (M' := MX11_init) (bc' := 51) (bs' := 4399) (bc2 := 11) (bs2 := 286) eL_build_4 mL_23 wX11_init iX11_init rfl kX11 (by decide) ⟨rfl, rfl⟩ (by decide) ?_
  rintro r h' ⟨rfl, rfl⟩
  refine k_astore_n (L2 := [_, _, _]) eL_build_7 (Nat.le_of_ble_eq_true rfl) rfl ?_
  refine k_iconst (v := nI 1) eL_build_8 (by decide) ?_
  refine k_istore_n (L2 := [_, _, _]) eL_build_9 (Nat.le_of_ble_eq_true rfl) rfl ?_
  exact b10 hN 3 1 S00 (by omega) (by omega) (bd_00 Ns xs)
