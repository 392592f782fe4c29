set_option maxHeartbeats 400000 in
theorem pX12_isUnder0 {h : k_H} {w : Nat} (hw : w < 8) : Sp 1 0 0 MX12_isUnder [.int (nI 0), .int (nI w)] h (Rt (some (.int (b2i (w = 0 ∨ w = 8)))) (h)) := by
  refine Sp_of (by decide +kernel) (Nat.le_of_ble_eq_true rfl) ?_
  show AW none MX12_isUnder 1 0 0 0 [.int (nI 0), .int (nI w), .null] [] h _
  refine k_iload_n eX12_isUnder_0 rfl ?_
  refine k_istore_n (L2 := [_, _, _]) eX12_isUnder_1 (Nat.le_of_ble_eq_true rfl) rfl ?_
  refine k_iload_n eX12_isUnder_2 rfl ?_
  refine k_if_ltN 19 eX12_isUnder_3 (by decide) (by omega) ?_
  refine k_iload_n eX12_isUnder_6 rfl ?_
  refine k_iload_n eX12_isUnder_7 rfl ?_
  refine k_icmp_eqN 19 eX12_isUnder_8 (by decide) (by omega) (by omega) (fun c_8 => ?_) (fun c_8 => ?_)
  · refine k_iload_n eX12_isUnder_19 rfl ?_
    refine k_iload_n eX12_isUnder_20 rfl ?_
    refine k_icmp_neN 28 eX12_isUnder_21 (by decide) (by omega) (by omega) (fun c_21 => ?_) (fun c_21 => ?_)
    · refine k_iconst (v := nI 0) eX12_isUnder_28 (by decide) ?_
      refine k_ireturn eX12_isUnder_29 rfl rfl ?_
      exact ⟨rt_f (by omega), rfl⟩
    refine k_iconst (v := nI 1) eX12_isUnder_24 (by decide) ?_
    refine k_goto 29 eX12_isUnder_25 (by decide) ?_
    refine k_ireturn eX12_isUnder_29 rfl rfl ?_
    exact ⟨rt_t (by omega), rfl⟩
  refine k_iload_n eX12_isUnder_11 rfl ?_
  refine cS1 (M' := MX12_above) eX12_isUnder_12 mX12_311 wX12_above sX12_above rfl (pX12_above0) (by decide) (Nat.le_of_ble_eq_true rfl) ?_
  refine k_istore_n (L2 := [_, _, _]) eX12_isUnder_15 (Nat.le_of_ble_eq_true rfl) rfl ?_
  refine k_goto 2 eX12_isUnder_16 (by decide) ?_
  refine k_iload_n eX12_isUnder_2 rfl ?_
  refine k_if_lt 19 eX12_isUnder_3 (by decide) (fun c_3 => ?_) (fun c_3 => by exfalso; revert c_3; decide)
  refine k_iload_n eX12_isUnder_19 rfl ?_
  refine k_iload_n eX12_isUnder_20 rfl ?_
  refine k_icmp_ne 28 eX12_isUnder_21 (by decide) (fun c_21 => ?_) (fun c_21 => by have q := congrArg Int32.toInt c_21; rw [nI_toInt (by omega), show (-1 : Int32).toInt = -1 from by decide] at q; omega)
  refine k_iconst (v := nI 0) eX12_isUnder_28 (by decide) ?_
  refine k_ireturn eX12_isUnder_29 rfl rfl ?_
  exact ⟨rt_f (by omega), rfl⟩
set_option maxHeartbeats 400000 in
theorem pX12_isUnder1 {h : k_H} {w : Nat} (hw : w < 8) : Sp 1 0 0 MX12_isUnder [.int (nI 1), .int (nI w)] h (Rt (some (.int (b2i (w = 1 ∨ w = 0 ∨ w = 8)))) (h)) := by
  refine Sp_of (by decide +kernel) (Nat.le_of_ble_eq_true rfl) ?_
  show AW none MX12_isUnder 1 0 0 0 [.int (nI 1), .int (nI w), .null] [] h _
  refine k_iload_n eX12_isUnder_0 rfl ?_
  refine k_istore_n (L2 := [_, _, _]) eX12_isUnder_1 (Nat.le_of_ble_eq_true rfl) rfl ?_
  refine k_iload_n eX12_isUnder_2 rfl ?_
  refine k_if_ltN 19 eX12_isUnder_3 (by decide) (by omega) ?_
  refine k_iload_n eX12_isUnder_6 rfl ?_
  refine k_iload_n eX12_isUnder_7 rfl ?_
  refine k_icmp_eqN 19 eX12_isUnder_8 (by decide) (by omega) (by omega) (fun c_8 => ?_) (fun c_8 => ?_)
  · refine k_iload_n eX12_isUnder_19 rfl ?_
    refine k_iload_n eX12_isUnder_20 rfl ?_
    refine k_icmp_neN 28 eX12_isUnder_21 (by decide) (by omega) (by omega) (fun c_21 => ?_) (fun c_21 => ?_)
    · refine k_iconst (v := nI 0) eX12_isUnder_28 (by decide) ?_
      refine k_ireturn eX12_isUnder_29 rfl rfl ?_
      exact ⟨rt_f (by omega), rfl⟩
    refine k_iconst (v := nI 1) eX12_isUnder_24 (by decide) ?_
    refine k_goto 29 eX12_isUnder_25 (by decide) ?_
    refine k_ireturn eX12_isUnder_29 rfl rfl ?_
    exact ⟨rt_t (by omega), rfl⟩
  refine k_iload_n eX12_isUnder_11 rfl ?_
  refine cS1 (M' := MX12_above) eX12_isUnder_12 mX12_311 wX12_above sX12_above rfl (pX12_above1) (by decide) (Nat.le_of_ble_eq_true rfl) ?_
  refine k_istore_n (L2 := [_, _, _]) eX12_isUnder_15 (Nat.le_of_ble_eq_true rfl) rfl ?_
  refine k_goto 2 eX12_isUnder_16 (by decide) ?_
  refine k_iload_n eX12_isUnder_2 rfl ?_
  refine k_if_ltN 19 eX12_isUnder_3 (by decide) (by omega) ?_
  refine k_iload_n eX12_isUnder_6 rfl ?_
  refine k_iload_n eX12_isUnder_7 rfl ?_
  refine k_icmp_eqN 19 eX12_isUnder_8 (by decide) (by omega) (by omega) (fun c_8 => ?_) (fun c_8 => ?_)
  · refine k_iload_n eX12_isUnder_19 rfl ?_
    refine k_iload_n eX12_isUnder_20 rfl ?_
    refine k_icmp_neN 28 eX12_isUnder_21 (by decide) (by omega) (by omega) (fun c_21 => ?_) (fun c_21 => ?_)
    · refine k_iconst (v := nI 0) eX12_isUnder_28 (by decide) ?_
      refine k_ireturn eX12_isUnder_29 rfl rfl ?_
      exact ⟨rt_f (by omega), rfl⟩
    refine k_iconst (v := nI 1) eX12_isUnder_24 (by decide) ?_
    refine k_goto 29 eX12_isUnder_25 (by decide) ?_
    refine k_ireturn eX12_isUnder_29 rfl rfl ?_
    exact ⟨rt_t (by omega), rfl⟩
  refine k_iload_n eX12_isUnder_11 rfl ?_
  refine cS1 (M' := MX12_above) eX12_isUnder_12 mX12_311 wX12_above sX12_above rfl (pX12_above0) (by decide) (Nat.le_of_ble_eq_true rfl) ?_
  refine k_istore_n (L2 := [_, _, _]) eX12_isUnder_15 (Nat.le_of_ble_eq_true rfl) rfl ?_
  refine k_goto 2 eX12_isUnder_16 (by decide) ?_
  refine k_iload_n eX12_isUnder_2 rfl ?_
  refine k_if_lt 19 eX12_isUnder_3 (by decide) (fun c_3 => ?_) (fun c_3 => by exfalso; revert c_3; decide)
  refine k_iload_n eX12_isUnder_19 rfl ?_
  refine k_iload_n eX12_isUnder_20 rfl ?_
  refine k_icmp_ne 28 eX12_isUnder_21 (by decide) (fun c_21 => ?_) (fun c_21 => by have q := congrArg Int32.toInt c_21; rw [nI_toInt (by omega), show (-1 : Int32).toInt = -1 from by decide] at q; omega)
  refine k_iconst (v := nI 0) eX12_isUnder_28 (by decide) ?_
  refine k_ireturn eX12_isUnder_29 rfl rfl ?_
  exact ⟨rt_f (by omega), rfl⟩
set_option maxHeartbeats 400000 in
theorem pX12_isUnder2 {h : k_H} {w : Nat} (hw : w < 8) : Sp 1 0 0 MX12_isUnder [.int (nI 2), .int (nI w)] h (Rt (some (.int (b2i (w = 2 ∨ w = 0 ∨ w = 8)))) (h)) := by
  refine Sp_of (by decide +kernel) (Nat.le_of_ble_eq_true rfl) ?_
  show AW none MX12_isUnder 1 0 0 0 [.int (nI 2), .int (nI w), .null] [] h _
  refine k_iload_n eX12_isUnder_0 rfl ?_
  refine k_istore_n (L2 := [_, _, _]) eX12_isUnder_1 (Nat.le_of_ble_eq_true rfl) rfl ?_
  refine k_iload_n eX12_isUnder_2 rfl ?_
  refine k_if_ltN 19 eX12_isUnder_3 (by decide) (by omega) ?_
  refine k_iload_n eX12_isUnder_6 rfl ?_
  refine k_iload_n eX12_isUnder_7 rfl ?_
  refine k_icmp_eqN 19 eX12_isUnder_8 (by decide) (by omega) (by omega) (fun c_8 => ?_) (fun c_8 => ?_)
  · refine k_iload_n eX12_isUnder_19 rfl ?_
    refine k_iload_n eX12_isUnder_20 rfl ?_
    refine k_icmp_neN 28 eX12_isUnder_21 (by decide) (by omega) (by omega) (fun c_21 => ?_) (fun c_21 => ?_)
    · refine k_iconst (v := nI 0) eX12_isUnder_28 (by decide) ?_
      refine k_ireturn eX12_isUnder_29 rfl rfl ?_
      exact ⟨rt_f (by omega), rfl⟩
    refine k_iconst (v := nI 1) eX12_isUnder_24 (by decide) ?_
    refine k_goto 29 eX12_isUnder_25 (by decide) ?_
    refine k_ireturn eX12_isUnder_29 rfl rfl ?_
    exact ⟨rt_t (by omega), rfl⟩
  refine k_iload_n eX12_isUnder_11 rfl ?_
  refine cS1 (M' := MX12_above) eX12_isUnder_12 mX12_311 wX12_above sX12_above rfl (pX12_above2) (by decide) (Nat.le_of_ble_eq_true rfl) ?_
  refine k_istore_n (L2 := [_, _, _]) eX12_isUnder_15 (Nat.le_of_ble_eq_true rfl) rfl ?_
  refine k_goto 2 eX12_isUnder_16 (by decide) ?_
  refine k_iload_n eX12_isUnder_2 rfl ?_
  refine k_if_ltN 19 eX12_isUnder_3 (by decide) (by omega) ?_
  refine k_iload_n eX12_isUnder_6 rfl ?_
  refine k_iload_n eX12_isUnder_7 rfl ?_
  refine k_icmp_eqN 19 eX12_isUnder_8 (by decide) (by omega) (by omega) (fun c_8 => ?_) (fun c_8 => ?_)
  · refine k_iload_n eX12_isUnder_19 rfl ?_
    refine k_iload_n eX12_isUnder_20 rfl ?_
    refine k_icmp_neN 28 eX12_isUnder_21 (by decide) (by omega) (by omega) (fun c_21 => ?_) (fun c_21 => ?_)
    · refine k_iconst (v := nI 0) eX12_isUnder_28 (by decide) ?_
      refine k_ireturn eX12_isUnder_29 rfl rfl ?_
      exact ⟨rt_f (by omega), rfl⟩
    refine k_iconst (v := nI 1) eX12_isUnder_24 (by decide) ?_
    refine k_goto 29 eX12_isUnder_25 (by decide) ?_
    refine k_ireturn eX12_isUnder_29 rfl rfl ?_
    exact ⟨rt_t (by omega), rfl⟩
  refine k_iload_n eX12_isUnder_11 rfl ?_
  refine cS1 (M' := MX12_above) eX12_isUnder_12 mX12_311 wX12_above sX12_above rfl (pX12_above0) (by decide) (Nat.le_of_ble_eq_true rfl) ?_
  refine k_istore_n (L2 := [_, _, _]) eX12_isUnder_15 (Nat.le_of_ble_eq_true rfl) rfl ?_
  refine k_goto 2 eX12_isUnder_16 (by decide) ?_
  refine k_iload_n eX12_isUnder_2 rfl ?_
  refine k_if_lt 19 eX12_isUnder_3 (by decide) (fun c_3 => ?_) (fun c_3 => by exfalso; revert c_3; decide)
  refine k_iload_n eX12_isUnder_19 rfl ?_
  refine k_iload_n eX12_isUnder_20 rfl ?_
  refine k_icmp_ne 28 eX12_isUnder_21 (by decide) (fun c_21 => ?_) (fun c_21 => by have q := congrArg Int32.toInt c_21; rw [nI_toInt (by omega), show (-1 : Int32).toInt = -1 from by decide] at q; omega)
  refine k_iconst (v := nI 0) eX12_isUnder_28 (by decide) ?_
  refine k_ireturn eX12_isUnder_29 rfl rfl ?_
  exact ⟨rt_f (by omega), rfl⟩
set_option maxHeartbeats 400000 in
theorem pX12_isUnder3 {h : k_H} {w : Nat} (hw : w < 8) : Sp 1 0 0 MX12_isUnder [.int (nI 3), .int (nI w)] h (Rt (some (.int (b2i (w = 3 ∨ w = 2 ∨ w = 0 ∨ w = 8)))) (h)) := by
  refine Sp_of (by decide +kernel) (Nat.le_of_ble_eq_true rfl) ?_
  show AW none MX12_isUnder 1 0 0 0 [.int (nI 3), .int (nI w), .null] [] h _
  refine k_iload_n eX12_isUnder_0 rfl ?_
  refine k_istore_n (L2 := [_, _, _]) eX12_isUnder_1 (Nat.le_of_ble_eq_true rfl) rfl ?_
  refine k_iload_n eX12_isUnder_2 rfl ?_
  refine k_if_ltN 19 eX12_isUnder_3 (by decide) (by omega) ?_
  refine k_iload_n eX12_isUnder_6 rfl ?_
  refine k_iload_n eX12_isUnder_7 rfl ?_
  refine k_icmp_eqN 19 eX12_isUnder_8 (by decide) (by omega) (by omega) (fun c_8 => ?_) (fun c_8 => ?_)
  · refine k_iload_n eX12_isUnder_19 rfl ?_
    refine k_iload_n eX12_isUnder_20 rfl ?_
    refine k_icmp_neN 28 eX12_isUnder_21 (by decide) (by omega) (by omega) (fun c_21 => ?_) (fun c_21 => ?_)
    · refine k_iconst (v := nI 0) eX12_isUnder_28 (by decide) ?_
      refine k_ireturn eX12_isUnder_29 rfl rfl ?_
      exact ⟨rt_f (by omega), rfl⟩
    refine k_iconst (v := nI 1) eX12_isUnder_24 (by decide) ?_
    refine k_goto 29 eX12_isUnder_25 (by decide) ?_
    refine k_ireturn eX12_isUnder_29 rfl rfl ?_
    exact ⟨rt_t (by omega), rfl⟩
  refine k_iload_n eX12_isUnder_11 rfl ?_
  refine cS1 (M' := MX12_above) eX12_isUnder_12 mX12_311 wX12_above sX12_above rfl (pX12_above3) (by decide) (Nat.le_of_ble_eq_true rfl) ?_
  refine k_istore_n (L2 := [_, _, _]) eX12_isUnder_15 (Nat.le_of_ble_eq_true rfl) rfl ?_
  refine k_goto 2 eX12_isUnder_16 (by decide) ?_
  refine k_iload_n eX12_isUnder_2 rfl ?_
  refine k_if_ltN 19 eX12_isUnder_3 (by decide) (by omega) ?_
  refine k_iload_n eX12_isUnder_6 rfl ?_
  refine k_iload_n eX12_isUnder_7 rfl ?_
  refine k_icmp_eqN 19 eX12_isUnder_8 (by decide) (by omega) (by omega) (fun c_8 => ?_) (fun c_8 => ?_)
  · refine k_iload_n eX12_isUnder_19 rfl ?_
    refine k_iload_n eX12_isUnder_20 rfl ?_
    refine k_icmp_neN 28 eX12_isUnder_21 (by decide) (by omega) (by omega) (fun c_21 => ?_) (fun c_21 => ?_)
    · refine k_iconst (v := nI 0) eX12_isUnder_28 (by decide) ?_
      refine k_ireturn eX12_isUnder_29 rfl rfl ?_
      exact ⟨rt_f (by omega), rfl⟩
    refine k_iconst (v := nI 1) eX12_isUnder_24 (by decide) ?_
    refine k_goto 29 eX12_isUnder_25 (by decide) ?_
    refine k_ireturn eX12_isUnder_29 rfl rfl ?_
    exact ⟨rt_t (by omega), rfl⟩
  refine k_iload_n eX12_isUnder_11 rfl ?_
  refine cS1 (M' := MX12_above) eX12_isUnder_12 mX12_311 wX12_above sX12_above rfl (pX12_above2) (by decide) (Nat.le_of_ble_eq_true rfl) ?_
  refine k_istore_n (L2 := [_, _, _]) eX12_isUnder_15 (Nat.le_of_ble_eq_true rfl) rfl ?_
  refine k_goto 2 eX12_isUnder_16 (by decide) ?_
  refine k_iload_n eX12_isUnder_2 rfl ?_
  refine k_if_ltN 19 eX12_isUnder_3 (by decide) (by omega) ?_
  refine k_iload_n eX12_isUnder_6 rfl ?_
  refine k_iload_n eX12_isUnder_7 rfl ?_
  refine k_icmp_eqN 19 eX12_isUnder_8 (by decide) (by omega) (by omega) (fun c_8 => ?_) (fun c_8 => ?_)
  · refine k_iload_n eX12_isUnder_19 rfl ?_
    refine k_iload_n eX12_isUnder_20 rfl ?_
    refine k_icmp_neN 28 eX12_isUnder_21 (by decide) (by omega) (by omega) (fun c_21 => ?_) (fun c_21 => ?_)
    · refine k_iconst (v := nI 0) eX12_isUnder_28 (by decide) ?_
      refine k_ireturn eX12_isUnder_29 rfl rfl ?_
      exact ⟨rt_f (by omega), rfl⟩
    refine k_iconst (v := nI 1) eX12_isUnder_24 (by decide) ?_
    refine k_goto 29 eX12_isUnder_25 (by decide) ?_
    refine k_ireturn eX12_isUnder_29 rfl rfl ?_
    exact ⟨rt_t (by omega), rfl⟩
  refine k_iload_n eX12_isUnder_11 rfl ?_
  refine cS1 (M' := MX12_above) eX12_isUnder_12 mX12_311 wX12_above sX12_above rfl (pX12_above0) (by decide) (Nat.le_of_ble_eq_true rfl) ?_
  refine k_istore_n (L2 := [_, _, _]) eX12_isUnder_15 (Nat.le_of_ble_eq_true rfl) rfl ?_
  refine k_goto 2 eX12_isUnder_16 (by decide) ?_
  refine k_iload_n eX12_isUnder_2 rfl ?_
  refine k_if_lt 19 eX12_isUnder_3 (by decide) (fun c_3 => ?_) (fun c_3 => by exfalso; revert c_3; decide)
  refine k_iload_n eX12_isUnder_19 rfl ?_
  refine k_iload_n eX12_isUnder_20 rfl ?_
  refine k_icmp_ne 28 eX12_isUnder_21 (by decide) (fun c_21 => ?_) (fun c_21 => by have q := congrArg Int32.toInt c_21; rw [nI_toInt (by omega), show (-1 : Int32).toInt = -1 from by decide] at q; omega)
  refine k_iconst (v := nI 0) eX12_isUnder_28 (by decide) ?_
  refine k_ireturn eX12_isUnder_29 rfl rfl ?_
  exact ⟨rt_f (by omega), rfl⟩
set_option maxHeartbeats 400000 in
theorem pX12_isUnder4 {h : k_H} {w : Nat} (hw : w < 8) : Sp 1 0 0 MX12_isUnder [.int (nI 4), .int (nI w)] h (Rt (some (.int (b2i (w = 4 ∨ w = 0 ∨ w = 8)))) (h)) := by
  refine Sp_of (by decide +kernel) (Nat.le_of_ble_eq_true rfl) ?_
  show AW none MX12_isUnder 1 0 0 0 [.int (nI 4), .int (nI w), .null] [] h _
  refine k_iload_n eX12_isUnder_0 rfl ?_
  refine k_istore_n (L2 := [_, _, _]) eX12_isUnder_1 (Nat.le_of_ble_eq_true rfl) rfl ?_
  refine k_iload_n eX12_isUnder_2 rfl ?_
  refine k_if_ltN 19 eX12_isUnder_3 (by decide) (by omega) ?_
  refine k_iload_n eX12_isUnder_6 rfl ?_
  refine k_iload_n eX12_isUnder_7 rfl ?_
  refine k_icmp_eqN 19 eX12_isUnder_8 (by decide) (by omega) (by omega) (fun c_8 => ?_) (fun c_8 => ?_)
  · refine k_iload_n eX12_isUnder_19 rfl ?_
    refine k_iload_n eX12_isUnder_20 rfl ?_
    refine k_icmp_neN 28 eX12_isUnder_21 (by decide) (by omega) (by omega) (fun c_21 => ?_) (fun c_21 => ?_)
    · refine k_iconst (v := nI 0) eX12_isUnder_28 (by decide) ?_
      refine k_ireturn eX12_isUnder_29 rfl rfl ?_
      exact ⟨rt_f (by omega), rfl⟩
    refine k_iconst (v := nI 1) eX12_isUnder_24 (by decide) ?_
    refine k_goto 29 eX12_isUnder_25 (by decide) ?_
    refine k_ireturn eX12_isUnder_29 rfl rfl ?_
    exact ⟨rt_t (by omega), rfl⟩
  refine k_iload_n eX12_isUnder_11 rfl ?_
  refine cS1 (M' := MX12_above) eX12_isUnder_12 mX12_311 wX12_above sX12_above rfl (pX12_above4) (by decide) (Nat.le_of_ble_eq_true rfl) ?_
  refine k_istore_n (L2 := [_, _, _]) eX12_isUnder_15 (Nat.le_of_ble_eq_true rfl) rfl ?_
  refine k_goto 2 eX12_isUnder_16 (by decide) ?_
  refine k_iload_n eX12_isUnder_2 rfl ?_
  refine k_if_ltN 19 eX12_isUnder_3 (by decide) (by omega) ?_
  refine k_iload_n eX12_isUnder_6 rfl ?_
  refine k_iload_n eX12_isUnder_7 rfl ?_
  refine k_icmp_eqN 19 eX12_isUnder_8 (by decide) (by omega) (by omega) (fun c_8 => ?_) (fun c_8 => ?_)
  · refine k_iload_n eX12_isUnder_19 rfl ?_
    refine k_iload_n eX12_isUnder_20 rfl ?_
    refine k_icmp_neN 28 eX12_isUnder_21 (by decide) (by omega) (by omega) (fun c_21 => ?_) (fun c_21 => ?_)
    · refine k_iconst (v := nI 0) eX12_isUnder_28 (by decide) ?_
      refine k_ireturn eX12_isUnder_29 rfl rfl ?_
      exact ⟨rt_f (by omega), rfl⟩
    refine k_iconst (v := nI 1) eX12_isUnder_24 (by decide) ?_
    refine k_goto 29 eX12_isUnder_25 (by decide) ?_
    refine k_ireturn eX12_isUnder_29 rfl rfl ?_
    exact ⟨rt_t (by omega), rfl⟩
  refine k_iload_n eX12_isUnder_11 rfl ?_
  refine cS1 (M' := MX12_above) eX12_isUnder_12 mX12_311 wX12_above sX12_above rfl (pX12_above0) (by decide) (Nat.le_of_ble_eq_true rfl) ?_
  refine k_istore_n (L2 := [_, _, _]) eX12_isUnder_15 (Nat.le_of_ble_eq_true rfl) rfl ?_
  refine k_goto 2 eX12_isUnder_16 (by decide) ?_
  refine k_iload_n eX12_isUnder_2 rfl ?_
  refine k_if_lt 19 eX12_isUnder_3 (by decide) (fun c_3 => ?_) (fun c_3 => by exfalso; revert c_3; decide)
  refine k_iload_n eX12_isUnder_19 rfl ?_
  refine k_iload_n eX12_isUnder_20 rfl ?_
  refine k_icmp_ne 28 eX12_isUnder_21 (by decide) (fun c_21 => ?_) (fun c_21 => by have q := congrArg Int32.toInt c_21; rw [nI_toInt (by omega), show (-1 : Int32).toInt = -1 from by decide] at q; omega)
  refine k_iconst (v := nI 0) eX12_isUnder_28 (by decide) ?_
  refine k_ireturn eX12_isUnder_29 rfl rfl ?_
  exact ⟨rt_f (by omega), rfl⟩
set_option maxHeartbeats 400000 in
theorem pX12_isUnder5 {h : k_H} {w : Nat} (hw : w < 8) : Sp 1 0 0 MX12_isUnder [.int (nI 5), .int (nI w)] h (Rt (some (.int (b2i (w = 5 ∨ w = 1 ∨ w = 0 ∨ w = 8)))) (h)) := by
  refine Sp_of (by decide +kernel) (Nat.le_of_ble_eq_true rfl) ?_
  show AW none MX12_isUnder 1 0 0 0 [.int (nI 5), .int (nI w), .null] [] h _
  refine k_iload_n eX12_isUnder_0 rfl ?_
  refine k_istore_n (L2 := [_, _, _]) eX12_isUnder_1 (Nat.le_of_ble_eq_true rfl) rfl ?_
  refine k_iload_n eX12_isUnder_2 rfl ?_
  refine k_if_ltN 19 eX12_isUnder_3 (by decide) (by omega) ?_
  refine k_iload_n eX12_isUnder_6 rfl ?_
  refine k_iload_n eX12_isUnder_7 rfl ?_
  refine k_icmp_eqN 19 eX12_isUnder_8 (by decide) (by omega) (by omega) (fun c_8 => ?_) (fun c_8 => ?_)
  · refine k_iload_n eX12_isUnder_19 rfl ?_
    refine k_iload_n eX12_isUnder_20 rfl ?_
    refine k_icmp_neN 28 eX12_isUnder_21 (by decide) (by omega) (by omega) (fun c_21 => ?_) (fun c_21 => ?_)
    · refine k_iconst (v := nI 0) eX12_isUnder_28 (by decide) ?_
      refine k_ireturn eX12_isUnder_29 rfl rfl ?_
      exact ⟨rt_f (by omega), rfl⟩
    refine k_iconst (v := nI 1) eX12_isUnder_24 (by decide) ?_
    refine k_goto 29 eX12_isUnder_25 (by decide) ?_
    refine k_ireturn eX12_isUnder_29 rfl rfl ?_
    exact ⟨rt_t (by omega), rfl⟩
  refine k_iload_n eX12_isUnder_11 rfl ?_
  refine cS1 (M' := MX12_above) eX12_isUnder_12 mX12_311 wX12_above sX12_above rfl (pX12_above5) (by decide) (Nat.le_of_ble_eq_true rfl) ?_
  refine k_istore_n (L2 := [_, _, _]) eX12_isUnder_15 (Nat.le_of_ble_eq_true rfl) rfl ?_
  refine k_goto 2 eX12_isUnder_16 (by decide) ?_
  refine k_iload_n eX12_isUnder_2 rfl ?_
  refine k_if_ltN 19 eX12_isUnder_3 (by decide) (by omega) ?_
  refine k_iload_n eX12_isUnder_6 rfl ?_
  refine k_iload_n eX12_isUnder_7 rfl ?_
  refine k_icmp_eqN 19 eX12_isUnder_8 (by decide) (by omega) (by omega) (fun c_8 => ?_) (fun c_8 => ?_)
  · refine k_iload_n eX12_isUnder_19 rfl ?_
    refine k_iload_n eX12_isUnder_20 rfl ?_
    refine k_icmp_neN 28 eX12_isUnder_21 (by decide) (by omega) (by omega) (fun c_21 => ?_) (fun c_21 => ?_)
    · refine k_iconst (v := nI 0) eX12_isUnder_28 (by decide) ?_
      refine k_ireturn eX12_isUnder_29 rfl rfl ?_
      exact ⟨rt_f (by omega), rfl⟩
    refine k_iconst (v := nI 1) eX12_isUnder_24 (by decide) ?_
    refine k_goto 29 eX12_isUnder_25 (by decide) ?_
    refine k_ireturn eX12_isUnder_29 rfl rfl ?_
    exact ⟨rt_t (by omega), rfl⟩
  refine k_iload_n eX12_isUnder_11 rfl ?_
  refine cS1 (M' := MX12_above) eX12_isUnder_12 mX12_311 wX12_above sX12_above rfl (pX12_above1) (by decide) (Nat.le_of_ble_eq_true rfl) ?_
  refine k_istore_n (L2 := [_, _, _]) eX12_isUnder_15 (Nat.le_of_ble_eq_true rfl) rfl ?_
  refine k_goto 2 eX12_isUnder_16 (by decide) ?_
  refine k_iload_n eX12_isUnder_2 rfl ?_
  refine k_if_ltN 19 eX12_isUnder_3 (by decide) (by omega) ?_
  refine k_iload_n eX12_isUnder_6 rfl ?_
  refine k_iload_n eX12_isUnder_7 rfl ?_
  refine k_icmp_eqN 19 eX12_isUnder_8 (by decide) (by omega) (by omega) (fun c_8 => ?_) (fun c_8 => ?_)
  · refine k_iload_n eX12_isUnder_19 rfl ?_
    refine k_iload_n eX12_isUnder_20 rfl ?_
    refine k_icmp_neN 28 eX12_isUnder_21 (by decide) (by omega) (by omega) (fun c_21 => ?_) (fun c_21 => ?_)
    · refine k_iconst (v := nI 0) eX12_isUnder_28 (by decide) ?_
      refine k_ireturn eX12_isUnder_29 rfl rfl ?_
      exact ⟨rt_f (by omega), rfl⟩
    refine k_iconst (v := nI 1) eX12_isUnder_24 (by decide) ?_
    refine k_goto 29 eX12_isUnder_25 (by decide) ?_
    refine k_ireturn eX12_isUnder_29 rfl rfl ?_
    exact ⟨rt_t (by omega), rfl⟩
  refine k_iload_n eX12_isUnder_11 rfl ?_
  refine cS1 (M' := MX12_above) eX12_isUnder_12 mX12_311 wX12_above sX12_above rfl (pX12_above0) (by decide) (Nat.le_of_ble_eq_true rfl) ?_
  refine k_istore_n (L2 := [_, _, _]) eX12_isUnder_15 (Nat.le_of_ble_eq_true rfl) rfl ?_
  refine k_goto 2 eX12_isUnder_16 (by decide) ?_
  refine k_iload_n eX12_isUnder_2 rfl ?_
  refine k_if_lt 19 eX12_isUnder_3 (by decide) (fun c_3 => ?_) (fun c_3 => by exfalso; revert c_3; decide)
  refine k_iload_n eX12_isUnder_19 rfl ?_
  refine k_iload_n eX12_isUnder_20 rfl ?_
  refine k_icmp_ne 28 eX12_isUnder_21 (by decide) (fun c_21 => ?_) (fun c_21 => by have q := congrArg Int32.toInt c_21; rw [nI_toInt (by omega), show (-1 : Int32).toInt = -1 from by decide] at q; omega)
  refine k_iconst (v := nI 0) eX12_isUnder_28 (by decide) ?_
  refine k_ireturn eX12_isUnder_29 rfl rfl ?_
  exact ⟨rt_f (by omega), rfl⟩
set_option maxHeartbeats 400000 in
theorem pX12_isUnder6 {h : k_H} {w : Nat} (hw : w < 8) : Sp 1 0 0 MX12_isUnder [.int (nI 6), .int (nI w)] h (Rt (some (.int (b2i (w = 6 ∨ w = 0 ∨ w = 8)))) (h)) := by
  refine Sp_of (by decide +kernel) (Nat.le_of_ble_eq_true rfl) ?_
  show AW none MX12_isUnder 1 0 0 0 [.int (nI 6), .int (nI w), .null] [] h _
  refine k_iload_n eX12_isUnder_0 rfl ?_
  refine k_istore_n (L2 := [_, _, _]) eX12_isUnder_1 (Nat.le_of_ble_eq_true rfl) rfl ?_
  refine k_iload_n eX12_isUnder_2 rfl ?_
  refine k_if_ltN 19 eX12_isUnder_3 (by decide) (by omega) ?_
  refine k_iload_n eX12_isUnder_6 rfl ?_
  refine k_iload_n eX12_isUnder_7 rfl ?_
  refine k_icmp_eqN 19 eX12_isUnder_8 (by decide) (by omega) (by omega) (fun c_8 => ?_) (fun c_8 => ?_)
  · refine k_iload_n eX12_isUnder_19 rfl ?_
    refine k_iload_n eX12_isUnder_20 rfl ?_
    refine k_icmp_neN 28 eX12_isUnder_21 (by decide) (by omega) (by omega) (fun c_21 => ?_) (fun c_21 => ?_)
    · refine k_iconst (v := nI 0) eX12_isUnder_28 (by decide) ?_
      refine k_ireturn eX12_isUnder_29 rfl rfl ?_
      exact ⟨rt_f (by omega), rfl⟩
    refine k_iconst (v := nI 1) eX12_isUnder_24 (by decide) ?_
    refine k_goto 29 eX12_isUnder_25 (by decide) ?_
    refine k_ireturn eX12_isUnder_29 rfl rfl ?_
    exact ⟨rt_t (by omega), rfl⟩
  refine k_iload_n eX12_isUnder_11 rfl ?_
  refine cS1 (M' := MX12_above) eX12_isUnder_12 mX12_311 wX12_above sX12_above rfl (pX12_above6) (by decide) (Nat.le_of_ble_eq_true rfl) ?_
  refine k_istore_n (L2 := [_, _, _]) eX12_isUnder_15 (Nat.le_of_ble_eq_true rfl) rfl ?_
  refine k_goto 2 eX12_isUnder_16 (by decide) ?_
  refine k_iload_n eX12_isUnder_2 rfl ?_
  refine k_if_ltN 19 eX12_isUnder_3 (by decide) (by omega) ?_
  refine k_iload_n eX12_isUnder_6 rfl ?_
  refine k_iload_n eX12_isUnder_7 rfl ?_
  refine k_icmp_eqN 19 eX12_isUnder_8 (by decide) (by omega) (by omega) (fun c_8 => ?_) (fun c_8 => ?_)
  · refine k_iload_n eX12_isUnder_19 rfl ?_
    refine k_iload_n eX12_isUnder_20 rfl ?_
    refine k_icmp_neN 28 eX12_isUnder_21 (by decide) (by omega) (by omega) (fun c_21 => ?_) (fun c_21 => ?_)
    · refine k_iconst (v := nI 0) eX12_isUnder_28 (by decide) ?_
      refine k_ireturn eX12_isUnder_29 rfl rfl ?_
      exact ⟨rt_f (by omega), rfl⟩
    refine k_iconst (v := nI 1) eX12_isUnder_24 (by decide) ?_
    refine k_goto 29 eX12_isUnder_25 (by decide) ?_
    refine k_ireturn eX12_isUnder_29 rfl rfl ?_
    exact ⟨rt_t (by omega), rfl⟩
  refine k_iload_n eX12_isUnder_11 rfl ?_
  refine cS1 (M' := MX12_above) eX12_isUnder_12 mX12_311 wX12_above sX12_above rfl (pX12_above0) (by decide) (Nat.le_of_ble_eq_true rfl) ?_
  refine k_istore_n (L2 := [_, _, _]) eX12_isUnder_15 (Nat.le_of_ble_eq_true rfl) rfl ?_
  refine k_goto 2 eX12_isUnder_16 (by decide) ?_
  refine k_iload_n eX12_isUnder_2 rfl ?_
  refine k_if_lt 19 eX12_isUnder_3 (by decide) (fun c_3 => ?_) (fun c_3 => by exfalso; revert c_3; decide)
  refine k_iload_n eX12_isUnder_19 rfl ?_
  refine k_iload_n eX12_isUnder_20 rfl ?_
  refine k_icmp_ne 28 eX12_isUnder_21 (by decide) (fun c_21 => ?_) (fun c_21 => by have q := congrArg Int32.toInt c_21; rw [nI_toInt (by omega), show (-1 : Int32).toInt = -1 from by decide] at q; omega)
  refine k_iconst (v := nI 0) eX12_isUnder_28 (by decide) ?_
  refine k_ireturn eX12_isUnder_29 rfl rfl ?_
  exact ⟨rt_f (by omega), rfl⟩
set_option maxHeartbeats 400000 in
theorem pX12_isUnder7 {h : k_H} {w : Nat} (hw : w < 8) : Sp 1 0 0 MX12_isUnder [.int (nI 7), .int (nI w)] h (Rt (some (.int (b2i (w = 7 ∨ w = 3 ∨ w = 2 ∨ w = 0 ∨ w = 8)))) (h)) := by
  refine Sp_of (by decide +kernel) (Nat.le_of_ble_eq_true rfl) ?_
  show AW none MX12_isUnder 1 0 0 0 [.int (nI 7), .int (nI w), .null] [] h _
  refine k_iload_n eX12_isUnder_0 rfl ?_
  refine k_istore_n (L2 := [_, _, _]) eX12_isUnder_1 (Nat.le_of_ble_eq_true rfl) rfl ?_
  refine k_iload_n eX12_isUnder_2 rfl ?_
  refine k_if_ltN 19 eX12_isUnder_3 (by decide) (by omega) ?_
  refine k_iload_n eX12_isUnder_6 rfl ?_
  refine k_iload_n eX12_isUnder_7 rfl ?_
  refine k_icmp_eqN 19 eX12_isUnder_8 (by decide) (by omega) (by omega) (fun c_8 => ?_) (fun c_8 => ?_)
  · refine k_iload_n eX12_isUnder_19 rfl ?_
    refine k_iload_n eX12_isUnder_20 rfl ?_
    refine k_icmp_neN 28 eX12_isUnder_21 (by decide) (by omega) (by omega) (fun c_21 => ?_) (fun c_21 => ?_)
    · refine k_iconst (v := nI 0) eX12_isUnder_28 (by decide) ?_
      refine k_ireturn eX12_isUnder_29 rfl rfl ?_
      exact ⟨rt_f (by omega), rfl⟩
    refine k_iconst (v := nI 1) eX12_isUnder_24 (by decide) ?_
    refine k_goto 29 eX12_isUnder_25 (by decide) ?_
    refine k_ireturn eX12_isUnder_29 rfl rfl ?_
    exact ⟨rt_t (by omega), rfl⟩
  refine k_iload_n eX12_isUnder_11 rfl ?_
  refine cS1 (M' := MX12_above) eX12_isUnder_12 mX12_311 wX12_above sX12_above rfl (pX12_above7) (by decide) (Nat.le_of_ble_eq_true rfl) ?_
  refine k_istore_n (L2 := [_, _, _]) eX12_isUnder_15 (Nat.le_of_ble_eq_true rfl) rfl ?_
  refine k_goto 2 eX12_isUnder_16 (by decide) ?_
  refine k_iload_n eX12_isUnder_2 rfl ?_
  refine k_if_ltN 19 eX12_isUnder_3 (by decide) (by omega) ?_
  refine k_iload_n eX12_isUnder_6 rfl ?_
  refine k_iload_n eX12_isUnder_7 rfl ?_
  refine k_icmp_eqN 19 eX12_isUnder_8 (by decide) (by omega) (by omega) (fun c_8 => ?_) (fun c_8 => ?_)
  · refine k_iload_n eX12_isUnder_19 rfl ?_
    refine k_iload_n eX12_isUnder_20 rfl ?_
    refine k_icmp_neN 28 eX12_isUnder_21 (by decide) (by omega) (by omega) (fun c_21 => ?_) (fun c_21 => ?_)
    · refine k_iconst (v := nI 0) eX12_isUnder_28 (by decide) ?_
      refine k_ireturn eX12_isUnder_29 rfl rfl ?_
      exact ⟨rt_f (by omega), rfl⟩
    refine k_iconst (v := nI 1) eX12_isUnder_24 (by decide) ?_
    refine k_goto 29 eX12_isUnder_25 (by decide) ?_
    refine k_ireturn eX12_isUnder_29 rfl rfl ?_
    exact ⟨rt_t (by omega), rfl⟩
  refine k_iload_n eX12_isUnder_11 rfl ?_
  refine cS1 (M' := MX12_above) eX12_isUnder_12 mX12_311 wX12_above sX12_above rfl (pX12_above3) (by decide) (Nat.le_of_ble_eq_true rfl) ?_
  refine k_istore_n (L2 := [_, _, _]) eX12_isUnder_15 (Nat.le_of_ble_eq_true rfl) rfl ?_
  refine k_goto 2 eX12_isUnder_16 (by decide) ?_
  refine k_iload_n eX12_isUnder_2 rfl ?_
  refine k_if_ltN 19 eX12_isUnder_3 (by decide) (by omega) ?_
  refine k_iload_n eX12_isUnder_6 rfl ?_
  refine k_iload_n eX12_isUnder_7 rfl ?_
  refine k_icmp_eqN 19 eX12_isUnder_8 (by decide) (by omega) (by omega) (fun c_8 => ?_) (fun c_8 => ?_)
  · refine k_iload_n eX12_isUnder_19 rfl ?_
    refine k_iload_n eX12_isUnder_20 rfl ?_
    refine k_icmp_neN 28 eX12_isUnder_21 (by decide) (by omega) (by omega) (fun c_21 => ?_) (fun c_21 => ?_)
    · refine k_iconst (v := nI 0) eX12_isUnder_28 (by decide) ?_
      refine k_ireturn eX12_isUnder_29 rfl rfl ?_
      exact ⟨rt_f (by omega), rfl⟩
    refine k_iconst (v := nI 1) eX12_isUnder_24 (by decide) ?_
    refine k_goto 29 eX12_isUnder_25 (by decide) ?_
    refine k_ireturn eX12_isUnder_29 rfl rfl ?_
    exact ⟨rt_t (by omega), rfl⟩
  refine k_iload_n eX12_isUnder_11 rfl ?_
  refine cS1 (M' := MX12_above) eX12_isUnder_12 mX12_311 wX12_above sX12_above rfl (pX12_above2) (by decide) (Nat.le_of_ble_eq_true rfl) ?_
  refine k_istore_n (L2 := [_, _, _]) eX12_isUnder_15 (Nat.le_of_ble_eq_true rfl) rfl ?_
  refine k_goto 2 eX12_isUnder_16 (by decide) ?_
  refine k_iload_n eX12_isUnder_2 rfl ?_
  refine k_if_ltN 19 eX12_isUnder_3 (by decide) (by omega) ?_
  refine k_iload_n eX12_isUnder_6 rfl ?_
  refine k_iload_n eX12_isUnder_7 rfl ?_
  refine k_icmp_eqN 19 eX12_isUnder_8 (by decide) (by omega) (by omega) (fun c_8 => ?_) (fun c_8 => ?_)
  · refine k_iload_n eX12_isUnder_19 rfl ?_
    refine k_iload_n eX12_isUnder_20 rfl ?_
    refine k_icmp_neN 28 eX12_isUnder_21 (by decide) (by omega) (by omega) (fun c_21 => ?_) (fun c_21 => ?_)
    · refine k_iconst (v := nI 0) eX12_isUnder_28 (by decide) ?_
      refine k_ireturn eX12_isUnder_29 rfl rfl ?_
      exact ⟨rt_f (by omega), rfl⟩
    refine k_iconst (v := nI 1) eX12_isUnder_24 (by decide) ?_
    refine k_goto 29 eX12_isUnder_25 (by decide) ?_
    refine k_ireturn eX12_isUnder_29 rfl rfl ?_
    exact ⟨rt_t (by omega), rfl⟩
  refine k_iload_n eX12_isUnder_11 rfl ?_
  refine cS1 (M' := MX12_above) eX12_isUnder_12 mX12_311 wX12_above sX12_above rfl (pX12_above0) (by decide) (Nat.le_of_ble_eq_true rfl) ?_
  refine k_istore_n (L2 := [_, _, _]) eX12_isUnder_15 (Nat.le_of_ble_eq_true rfl) rfl ?_
  refine k_goto 2 eX12_isUnder_16 (by decide) ?_
  refine k_iload_n eX12_isUnder_2 rfl ?_
  refine k_if_lt 19 eX12_isUnder_3 (by decide) (fun c_3 => ?_) (fun c_3 => by exfalso; revert c_3; decide)
  refine k_iload_n eX12_isUnder_19 rfl ?_
  refine k_iload_n eX12_isUnder_20 rfl ?_
  refine k_icmp_ne 28 eX12_isUnder_21 (by decide) (fun c_21 => ?_) (fun c_21 => by have q := congrArg Int32.toInt c_21; rw [nI_toInt (by omega), show (-1 : Int32).toInt = -1 from by decide] at q; omega)
  refine k_iconst (v := nI 0) eX12_isUnder_28 (by decide) ?_
  refine k_ireturn eX12_isUnder_29 rfl rfl ?_
  exact ⟨rt_f (by omega), rfl⟩
theorem pX12_isUnder {h : k_H} {K w : Nat} (hK : K < 8) (hw : w < 8) : Sp 1 0 0 MX12_isUnder [.int (nI K), .int (nI w)] h (Rt (some (.int (b2i (undB K w = true)))) h) := by
  rcases (by omega : K = 0 ∨ K = 1 ∨ K = 2 ∨ K = 3 ∨ K = 4 ∨ K = 5 ∨ K = 6 ∨ K = 7) with rfl | rfl | rfl | rfl | rfl | rfl | rfl | rfl
  · have q := pX12_isUnder0 (h := h) hw; rw [b2i_c (show (w = 0 ∨ w = 8) ↔ undB 0 w = true from decide_eq_true_iff.symm)] at q; exact q
  · have q := pX12_isUnder1 (h := h) hw; rw [b2i_c (show (w = 1 ∨ w = 0 ∨ w = 8) ↔ undB 1 w = true from decide_eq_true_iff.symm)] at q; exact q
  · have q := pX12_isUnder2 (h := h) hw; rw [b2i_c (show (w = 2 ∨ w = 0 ∨ w = 8) ↔ undB 2 w = true from decide_eq_true_iff.symm)] at q; exact q
  · have q := pX12_isUnder3 (h := h) hw; rw [b2i_c (show (w = 3 ∨ w = 2 ∨ w = 0 ∨ w = 8) ↔ undB 3 w = true from decide_eq_true_iff.symm)] at q; exact q
  · have q := pX12_isUnder4 (h := h) hw; rw [b2i_c (show (w = 4 ∨ w = 0 ∨ w = 8) ↔ undB 4 w = true from decide_eq_true_iff.symm)] at q; exact q
  · have q := pX12_isUnder5 (h := h) hw; rw [b2i_c (show (w = 5 ∨ w = 1 ∨ w = 0 ∨ w = 8) ↔ undB 5 w = true from decide_eq_true_iff.symm)] at q; exact q
  · have q := pX12_isUnder6 (h := h) hw; rw [b2i_c (show (w = 6 ∨ w = 0 ∨ w = 8) ↔ undB 6 w = true from decide_eq_true_iff.symm)] at q; exact q
  · have q := pX12_isUnder7 (h := h) hw; rw [b2i_c (show (w = 7 ∨ w = 3 ∨ w = 2 ∨ w = 0 ∨ w = 8) ↔ undB 7 w = true from decide_eq_true_iff.symm)] at q; exact q
def aMTaN (S : k_S) (a : Nat) (k : Int32) : Int32 := if S.2.1 74 a = -1 then -11 else if ¬ 0 ≤ S.2.1 74 a then -12 else if undB (ix (S.2.1 72 (ix (S.2.1 74 a)))) (ix k) = true then S.2.1 72 (ix (S.2.1 74 a)) else -12
def aMTak (S : k_S) (s k : Int32) : Int32 := if ¬ (pSh s ∧ pIn k (nI 0) (nI 7)) then -1 else aMTaN S (ix s) k
set_option maxHeartbeats 400000 in
theorem pX12_taken {S : k_S} {kn : Nat} (hsh : mShOk S kn) (hk : mKdOk S kn) (s k : Int32) : Sp 2 0 0 MX12_taken [.ref 52, .int (s), .int (k)] (hp S) (Rt (some (.int (aMTak S s k))) (hp S)) := by
  refine Sp_of (by decide +kernel) (Nat.le_of_ble_eq_true rfl) ?_
  show AW none MX12_taken 2 0 0 0 [.ref 52, .int (s), .int (k)] [] (hp S) _
  refine k_iload_n eX12_taken_0 rfl ?_
  refine cS1 (M' := MX12_isShelf) eX12_taken_1 mX12_156 wX12_isShelf sX12_isShelf rfl (pX12_isShelf (s)) (by decide) (Nat.le_of_ble_eq_true rfl) ?_
  refine k_ifb_eq 17 eX12_taken_4 (by decide) (fun c_4 => ?_) (fun c_4 => ?_)
  · refine k_iconst (v := (-1)) eX12_taken_17 (by decide) ?_
    refine k_ireturn eX12_taken_18 rfl rfl ?_
    exact ⟨by rw [aMTak, if_pos (fun q => by first | exact c_4 q.1 | exact c_14 q.2)], rfl⟩
  refine k_iload_n eX12_taken_7 rfl ?_
  refine k_iconst (v := nI 0) eX12_taken_8 (by decide) ?_
  refine k_bipush (v := nI 7) eX12_taken_9 (by decide) ?_
  refine cS1 (M' := MX12_in) eX12_taken_11 mX12_120 wX12_in sX12_in rfl (pX12_in (k) (nI 0) (nI 7)) (by decide) (Nat.le_of_ble_eq_true rfl) ?_
  refine k_ifb_ne 19 eX12_taken_14 (by decide) (fun c_14 => ?_) (fun c_14 => ?_)
  · obtain ⟨a, ha, rfl⟩ := pSh_ex c_4
    obtain ⟨w, hw, rfl⟩ := k_rngle c_14.1 c_14.2 (by decide)
    have eA : aMTak S (nI a) (nI w) = aMTaN S a (nI w) := by rw [aMTak, if_neg (not_not_intro ⟨c_4, c_14⟩), ix_nI (by omega)]
    rw [eA]
    refine k_aload_n eX12_taken_19 rfl ?_
    refine GX12_80 eX12_taken_20 rfl ?_
    refine k_iload_n eX12_taken_23 rfl ?_
    refine k_ialdN (j := a) eX12_taken_24 (ar74 _) (by omega) (Nat.le_of_ble_eq_true rfl) ?_
    refine k_iconst (v := (-1)) eX12_taken_25 (by decide) ?_
    refine k_icmp_ne 32 eX12_taken_26 (by decide) (fun c_26 => ?_) (fun c_26 => ?_)
    · refine k_aload_n eX12_taken_32 rfl ?_
      refine GX12_80 eX12_taken_33 rfl ?_
      refine k_iload_n eX12_taken_36 rfl ?_
      refine k_ialdN (j := a) eX12_taken_37 (ar74 _) (by omega) (Nat.le_of_ble_eq_true rfl) ?_
      refine k_if_lt 73 eX12_taken_38 (by decide) (fun c_38 => ?_) (fun c_38 => ?_)
      · refine k_bipush (v := (-12)) eX12_taken_73 (by decide) ?_
        refine k_ireturn eX12_taken_75 rfl rfl ?_
        first | exact ⟨by rw [aMTaN, if_neg c_26, if_neg (not_not_intro (by rw [ep]; exact nI_pos' (by omega))), ep, ix_nI (by omega), eK, ix_nI (by omega), ix_nI (by omega), if_neg c_56], rfl⟩ | exact ⟨by rw [aMTaN, if_neg c_26, if_pos (Int32.not_le.mpr c_38)], rfl⟩
      obtain ⟨p, hpk, ep⟩ : ∃ p, p < kn ∧ S.2.1 74 a = nI p := by
        rcases hsh a ha with q | q | ⟨q, _⟩
        · exact absurd q c_26
        · exact q
        · exact absurd (by rw [q]; decide) c_38
      have hk50 := hk.2.1
      obtain ⟨K, hK, eK⟩ := hk.2.2 p hpk
      refine k_aload_n eX12_taken_41 rfl ?_
      refine GX12_74 eX12_taken_42 rfl ?_
      refine k_aload_n eX12_taken_45 rfl ?_
      refine GX12_80 eX12_taken_46 rfl ?_
      refine k_iload_n eX12_taken_49 rfl ?_
      refine k_ialdN (j := a) eX12_taken_50 (ar74 _) (by omega) (Nat.le_of_ble_eq_true rfl) ?_
      refine k_topi (nI p) ep ?_
      refine k_ialdN (j := p) eX12_taken_51 (ar72 _) (by omega) (Nat.le_of_ble_eq_true rfl) ?_
      refine k_topi (nI K) eK ?_
      refine k_iload_n eX12_taken_52 rfl ?_
      refine cS1 (M' := MX12_isUnder) eX12_taken_53 mX12_340 wX12_isUnder sX12_isUnder rfl (pX12_isUnder (K := K) (w := w) hK (by omega)) (by decide) (Nat.le_of_ble_eq_true rfl) ?_
      refine k_ifb_eq 73 eX12_taken_56 (by decide) (fun c_56 => ?_) (fun c_56 => ?_)
      · refine k_bipush (v := (-12)) eX12_taken_73 (by decide) ?_
        refine k_ireturn eX12_taken_75 rfl rfl ?_
        first | exact ⟨by rw [aMTaN, if_neg c_26, if_neg (not_not_intro (by rw [ep]; exact nI_pos' (by omega))), ep, ix_nI (by omega), eK, ix_nI (by omega), ix_nI (by omega), if_neg c_56], rfl⟩ | exact ⟨by rw [aMTaN, if_neg c_26, if_pos (Int32.not_le.mpr c_38)], rfl⟩
      refine k_aload_n eX12_taken_59 rfl ?_
      refine GX12_74 eX12_taken_60 rfl ?_
      refine k_aload_n eX12_taken_63 rfl ?_
      refine GX12_80 eX12_taken_64 rfl ?_
      refine k_iload_n eX12_taken_67 rfl ?_
      refine k_ialdN (j := a) eX12_taken_68 (ar74 _) (by omega) (Nat.le_of_ble_eq_true rfl) ?_
      refine k_topi (nI p) ep ?_
      refine k_ialdN (j := p) eX12_taken_69 (ar72 _) (by omega) (Nat.le_of_ble_eq_true rfl) ?_
      refine k_topi (nI K) eK ?_
      refine k_goto 75 eX12_taken_70 (by decide) ?_
      refine k_ireturn eX12_taken_75 rfl rfl ?_
      exact ⟨by rw [aMTaN, if_neg c_26, if_neg (not_not_intro (by rw [ep]; exact nI_pos' (by omega))), ep, ix_nI (by omega), eK, ix_nI (by omega), ix_nI (by omega), if_pos c_56], rfl⟩
    refine k_bipush (v := (-11)) eX12_taken_29 (by decide) ?_
    refine k_ireturn eX12_taken_31 rfl rfl ?_
    exact ⟨by rw [aMTaN, if_pos c_26], rfl⟩
  refine k_iconst (v := (-1)) eX12_taken_17 (by decide) ?_
  refine k_ireturn eX12_taken_18 rfl rfl ?_
  exact ⟨by rw [aMTak, if_pos (fun q => by first | exact c_4 q.1 | exact c_14 q.2)], rfl⟩
def aMNum (S : k_S) (x : Int32) : Int32 := if x = nI 0 then S.1 2600 else if x = nI 1 then S.1 2604 else if x = nI 2 then nI (cnt (S.2.1 61) 0 120) else if x = nI 3 then S.1 2611 else if x = nI 4 then S.1 2615 else if x = nI 5 then S.1 2619 else if x = nI 6 then S.1 2626 else if x = nI 7 then S.1 2627 else if x = nI 8 then S.1 2629 else -1
set_option maxHeartbeats 400000 in
theorem pX12_count0 {S : k_S} (hpl : PlanOk (vM S)) : Sp 1 0 0 MX12_count [.ref 52, .int (nI 0)] (hp S) (Rt (some (.int (S.1 2600))) (hp S)) := by
  refine Sp_of (by decide +kernel) (Nat.le_of_ble_eq_true rfl) ?_
  show AW none MX12_count 1 0 0 0 [.ref 52, .int (nI 0)] [] (hp S) _
  refine k_iload_n eX12_count_0 rfl ?_
  refine k_tabIn 52 (off := 51) eX12_count_1 (by decide) (by decide) (by decide) (by decide) ?_
  refine k_aload_n eX12_count_52 rfl ?_
  refine GX12_7 eX12_count_53 rfl ?_
  refine k_ireturn eX12_count_56 rfl rfl ?_
  exact ⟨rfl, rfl⟩
set_option maxHeartbeats 400000 in
theorem pX12_count1 {S : k_S} (hpl : PlanOk (vM S)) : Sp 1 0 0 MX12_count [.ref 52, .int (nI 1)] (hp S) (Rt (some (.int (S.1 2604))) (hp S)) := by
  refine Sp_of (by decide +kernel) (Nat.le_of_ble_eq_true rfl) ?_
  show AW none MX12_count 1 0 0 0 [.ref 52, .int (nI 1)] [] (hp S) _
  refine k_iload_n eX12_count_0 rfl ?_
  refine k_tabIn 57 (off := 56) eX12_count_1 (by decide) (by decide) (by decide) (by decide) ?_
  refine k_aload_n eX12_count_57 rfl ?_
  refine GX12_124 eX12_count_58 rfl ?_
  refine k_ireturn eX12_count_61 rfl rfl ?_
  exact ⟨rfl, rfl⟩
set_option maxHeartbeats 400000 in
theorem pX12_count2 {S : k_S} (hpl : PlanOk (vM S)) : Sp 1 0 0 MX12_count [.ref 52, .int (nI 2)] (hp S) (Rt (some (.int (nI (cnt (S.2.1 61) 0 120)))) (hp S)) := by
  refine Sp_of (by decide +kernel) (Nat.le_of_ble_eq_true rfl) ?_
  show AW none MX12_count 1 0 0 0 [.ref 52, .int (nI 2)] [] (hp S) _
  refine k_iload_n eX12_count_0 rfl ?_
  refine k_tabIn 62 (off := 61) eX12_count_1 (by decide) (by decide) (by decide) (by decide) ?_
  refine k_aload_n eX12_count_62 rfl ?_
  refine k_iconst (v := nI 0) eX12_count_63 (by decide) ?_
  refine k_bipush (v := nI 119) eX12_count_64 (by decide) ?_
  refine cV1 (M' := MX12_workDays) eX12_count_66 mX12_162 wX12_workDays vX12_workDays ⟨_, _, _, rfl, rfl, rfl⟩ rfl (pX12_workDays (S := S) (V := vM (S)) (x := 0) (y := 119) rfl (by assumption) (by omega) (by omega)) (by decide) (Nat.le_of_ble_eq_true rfl) ?_
  refine k_ireturn eX12_count_69 rfl rfl ?_
  exact ⟨rfl, rfl⟩
set_option maxHeartbeats 400000 in
theorem pX12_count3 {S : k_S} (hpl : PlanOk (vM S)) : Sp 1 0 0 MX12_count [.ref 52, .int (nI 3)] (hp S) (Rt (some (.int (S.1 2611))) (hp S)) := by
  refine Sp_of (by decide +kernel) (Nat.le_of_ble_eq_true rfl) ?_
  show AW none MX12_count 1 0 0 0 [.ref 52, .int (nI 3)] [] (hp S) _
  refine k_iload_n eX12_count_0 rfl ?_
  refine k_tabIn 70 (off := 69) eX12_count_1 (by decide) (by decide) (by decide) (by decide) ?_
  refine k_aload_n eX12_count_70 rfl ?_
  refine GX12_183 eX12_count_71 rfl ?_
  refine k_ireturn eX12_count_74 rfl rfl ?_
  exact ⟨rfl, rfl⟩
set_option maxHeartbeats 400000 in
theorem pX12_count4 {S : k_S} (hpl : PlanOk (vM S)) : Sp 1 0 0 MX12_count [.ref 52, .int (nI 4)] (hp S) (Rt (some (.int (S.1 2615))) (hp S)) := by
  refine Sp_of (by decide +kernel) (Nat.le_of_ble_eq_true rfl) ?_
  show AW none MX12_count 1 0 0 0 [.ref 52, .int (nI 4)] [] (hp S) _
  refine k_iload_n eX12_count_0 rfl ?_
  refine k_tabIn 75 (off := 74) eX12_count_1 (by decide) (by decide) (by decide) (by decide) ?_
  refine k_aload_n eX12_count_75 rfl ?_
  refine GX12_203 eX12_count_76 rfl ?_
  refine k_ireturn eX12_count_79 rfl rfl ?_
  exact ⟨rfl, rfl⟩
set_option maxHeartbeats 400000 in
theorem pX12_count5 {S : k_S} (hpl : PlanOk (vM S)) : Sp 1 0 0 MX12_count [.ref 52, .int (nI 5)] (hp S) (Rt (some (.int (S.1 2619))) (hp S)) := by
  refine Sp_of (by decide +kernel) (Nat.le_of_ble_eq_true rfl) ?_
  show AW none MX12_count 1 0 0 0 [.ref 52, .int (nI 5)] [] (hp S) _
  refine k_iload_n eX12_count_0 rfl ?_
  refine k_tabIn 80 (off := 79) eX12_count_1 (by decide) (by decide) (by decide) (by decide) ?_
  refine k_aload_n eX12_count_80 rfl ?_
  refine GX12_294 eX12_count_81 rfl ?_
  refine k_ireturn eX12_count_84 rfl rfl ?_
  exact ⟨rfl, rfl⟩
set_option maxHeartbeats 400000 in
theorem pX12_count6 {S : k_S} (hpl : PlanOk (vM S)) : Sp 1 0 0 MX12_count [.ref 52, .int (nI 6)] (hp S) (Rt (some (.int (S.1 2626))) (hp S)) := by
  refine Sp_of (by decide +kernel) (Nat.le_of_ble_eq_true rfl) ?_
  show AW none MX12_count 1 0 0 0 [.ref 52, .int (nI 6)] [] (hp S) _
  refine k_iload_n eX12_count_0 rfl ?_
  refine k_tabIn 85 (off := 84) eX12_count_1 (by decide) (by decide) (by decide) (by decide) ?_
  refine k_aload_n eX12_count_85 rfl ?_
  refine GX12_138 eX12_count_86 rfl ?_
  refine k_ireturn eX12_count_89 rfl rfl ?_
  exact ⟨rfl, rfl⟩
set_option maxHeartbeats 400000 in
theorem pX12_count7 {S : k_S} (hpl : PlanOk (vM S)) : Sp 1 0 0 MX12_count [.ref 52, .int (nI 7)] (hp S) (Rt (some (.int (S.1 2627))) (hp S)) := by
  refine Sp_of (by decide +kernel) (Nat.le_of_ble_eq_true rfl) ?_
  show AW none MX12_count 1 0 0 0 [.ref 52, .int (nI 7)] [] (hp S) _
  refine k_iload_n eX12_count_0 rfl ?_
  refine k_tabIn 90 (off := 89) eX12_count_1 (by decide) (by decide) (by decide) (by decide) ?_
  refine k_aload_n eX12_count_90 rfl ?_
  refine GX12_302 eX12_count_91 rfl ?_
  refine k_ireturn eX12_count_94 rfl rfl ?_
  exact ⟨rfl, rfl⟩
set_option maxHeartbeats 400000 in
theorem pX12_count8 {S : k_S} (hpl : PlanOk (vM S)) : Sp 1 0 0 MX12_count [.ref 52, .int (nI 8)] (hp S) (Rt (some (.int (S.1 2629))) (hp S)) := by
  refine Sp_of (by decide +kernel) (Nat.le_of_ble_eq_true rfl) ?_
  show AW none MX12_count 1 0 0 0 [.ref 52, .int (nI 8)] [] (hp S) _
  refine k_iload_n eX12_count_0 rfl ?_
  refine k_tabIn 95 (off := 94) eX12_count_1 (by decide) (by decide) (by decide) (by decide) ?_
  refine k_aload_n eX12_count_95 rfl ?_
  refine GX12_305 eX12_count_96 rfl ?_
  refine k_ireturn eX12_count_99 rfl rfl ?_
  exact ⟨rfl, rfl⟩
set_option maxHeartbeats 400000 in
theorem pX12_countN {S : k_S} (x : Int32) (hx : x.toInt < 0 ∨ 8 < x.toInt) : Sp 1 0 0 MX12_count [.ref 52, .int (x)] (hp S) (Rt (some (.int (-1))) (hp S)) := by
  refine Sp_of (by decide +kernel) (Nat.le_of_ble_eq_true rfl) ?_
  show AW none MX12_count 1 0 0 0 [.ref 52, .int (x)] [] (hp S) _
  refine k_iload_n eX12_count_0 rfl ?_
  refine k_tabOut 100 eX12_count_1 hx (by decide) ?_
  refine k_iconst (v := (-1)) eX12_count_100 (by decide) ?_
  refine k_ireturn eX12_count_101 rfl rfl ?_
  exact ⟨rfl, rfl⟩
theorem pX12_count {S : k_S} (hpl : PlanOk (vM S)) (x : Int32) : Sp 1 0 0 MX12_count [.ref 52, .int x] (hp S) (Rt (some (.int (aMNum S x))) (hp S)) := by
  by_cases h0 : x = nI 0
  · subst h0; exact pX12_count0 hpl
  by_cases h1 : x = nI 1
  · subst h1; exact pX12_count1 hpl
  by_cases h2 : x = nI 2
  · subst h2; exact pX12_count2 hpl
  by_cases h3 : x = nI 3
  · subst h3; exact pX12_count3 hpl
  by_cases h4 : x = nI 4
  · subst h4; exact pX12_count4 hpl
  by_cases h5 : x = nI 5
  · subst h5; exact pX12_count5 hpl
  by_cases h6 : x = nI 6
  · subst h6; exact pX12_count6 hpl
  by_cases h7 : x = nI 7
  · subst h7; exact pX12_count7 hpl
  by_cases h8 : x = nI 8
  · subst h8; exact pX12_count8 hpl
  · have e : aMNum S x = -1 := by unfold aMNum; simp only [h0, h1, h2, h3, h4, h5, h6, h7, h8, if_false]
    rw [e]
    refine pX12_countN x ?_
    by_cases q : x.toInt < 0
    · exact Or.inl q
    · by_cases q2 : 8 < x.toInt
      · exact Or.inr q2
      · exfalso
        obtain ⟨k, hk, rfl⟩ := k_rngle (n := 8) (x := x) (Int32.le_iff_toInt_le.mpr (by rw [nI_toInt (by omega)]; omega)) (Int32.le_iff_toInt_le.mpr (by rw [nI_toInt (by omega)]; omega)) (by decide)
        rcases (by omega : k = 0 ∨ k = 1 ∨ k = 2 ∨ k = 3 ∨ k = 4 ∨ k = 5 ∨ k = 6 ∨ k = 7 ∨ k = 8) with rfl | rfl | rfl | rfl | rfl | rfl | rfl | rfl | rfl
        · exact h0 rfl
        · exact h1 rfl
        · exact h2 rfl
        · exact h3 rfl
        · exact h4 rfl
        · exact h5 rfl
        · exact h6 rfl
        · exact h7 rfl
        · exact h8 rfl
def mkE (S : k_S) (u : Nat) (i : Int32) (j : Nat) : Int64 := S.2.2 77 (u * 60 + ix (i + nI j))
abbrev mkG (S : k_S) (u d : Nat) (i : Int32) (m j : Nat) : Prop := S.2.1 74 u = -2 ∧ j < m ∧ 0 ≤ i + nI j ∧ i + nI j < S.2.1 76 u ∧ d + j < 120 ∧ pW (S.1 2600) (mkE S u i j).toInt32
theorem mShOk.pl {S : k_S} {kn u : Nat} {x : Int32} (h : mShOk S kn) (hkn : kn ≤ 50) (hu : u < 6) (c0 : S.2.1 74 u = -2) (c1 : 0 ≤ x) (c2 : x < S.2.1 76 u) : ∃ p, p < 60 ∧ x = nI p := by
  obtain ⟨s, l, _, hl, _, e⟩ := msh_len h hkn hu c0
  obtain ⟨p, h3, h4⟩ := k_rng c1 (by rw [← e]; exact c2) (by omega)
  exact ⟨p, by omega, h4⟩
def mwcN (S : k_S) (d s i n : Int32) : Nat := ldN (mkG S (ix s) (ix d) i (ix n)) (ix n) 0
abbrev pMOth (S : k_S) (s : Int32) : Prop := ¬ S.2.1 74 (ix s) = -1 ∧ (¬ S.2.1 74 (ix s) = -2 ∨ ¬ S.2.1 75 (ix s) = 0)
def aMWks (S : k_S) (d s i n : Int32) : Int32 := if pWks d s n then (if pMOth S s then -12 else nI (mwcN S d s i n)) else -1
def mWks (S : k_S) (d s i n : Int32) : k_S := if pWks d s n then (if pMOth S s then S else si (si (sa S 61 (wkP (S.2.1 61) (ix d) (mkE S (ix s) i) (mwcN S d s i n))) 2626 (nI 0)) 2625 (nI 0)) else S
set_option maxHeartbeats 400000 in
theorem pX12_noChanges {S : k_S} : Sp 0 0 0 MX12_noChanges [.ref 52] (hp S) (Rt (none) (hp (si (si S 2626 (nI 0)) 2625 (nI 0)))) := by
  refine Sp_of (by decide +kernel) (Nat.le_of_ble_eq_true rfl) ?_
  show AW none MX12_noChanges 0 0 0 0 [.ref 52] [] (hp S) _
  refine k_aload_n eX12_noChanges_0 rfl ?_
  refine k_iconst (v := nI 0) eX12_noChanges_1 (by decide) ?_
  refine PX12_138 eX12_noChanges_2 rfl ?_
  refine k_aload_n eX12_noChanges_5 rfl ?_
  refine k_iconst (v := nI 0) eX12_noChanges_6 (by decide) ?_
  refine PX12_141 eX12_noChanges_7 rfl ?_
  refine k_return eX12_noChanges_10 rfl ?_
  exact ⟨rfl, rfl⟩
set_option maxHeartbeats 400000 in
theorem lX12_weeks {d : Nat} (hdd : 2 ≤ d) {C : k_S} {p : Nat → Int32} {kn : Nat} (hsh : mShOk C kn) (hkn50 : kn ≤ 50) {wk : Nat} (hwk : C.1 2600 = nI wk) (hwk6 : wk ≤ 6) {d0 u m : Nat} (hd0 : d0 < 120) (hu : u < 6) (hm : m ≤ 60) (i : Int32) : ∀ (k j : Nat), j + k = m → AW none MX12_weeks d 0 0 66 [.ref 52, .int (nI d0), .int (nI u), .int (i), .int (nI m), .int (nI j), .int ((i + nI j))] [] (hp (sa C 61 (wkP p d0 (mkE C u i) j))) (Rt (some (.int (nI (ldN (mkG C u d0 i m) k j)))) (hp (si (si (sa C 61 (wkP p d0 (mkE C u i) (ldN (mkG C u d0 i m) k j))) 2626 (nI 0)) 2625 (nI 0)))) := by
  intro k
  induction k with
  | zero =>
    intro j hj
    obtain rfl : m = j := by omega
    refine k_aload_n eX12_weeks_66 rfl ?_
    refine GX12_80 eX12_weeks_67 rfl ?_
    refine k_iload_n eX12_weeks_70 rfl ?_
    refine k_ialdN (j := u) eX12_weeks_71 (ar74 _) (by omega) (Nat.le_of_ble_eq_true rfl) ?_
    refine k_bipush (v := (-2)) eX12_weeks_72 (by decide) ?_
    refine k_icmp_ne 161 eX12_weeks_74 (by decide) (fun c_74 => ?_) (fun c_74 => ?_)
    · refine k_aload_n eX12_weeks_161 rfl ?_
      refine cV0 (M' := MX12_noChanges) eX12_weeks_162 mX12_159 wX12_noChanges vX12_noChanges ⟨_, _, _, rfl, rfl, rfl⟩ rfl (pX12_noChanges (S := (sa C 61 (wkP p d0 (mkE C u i) m))) ) (by omega) (Nat.le_of_ble_eq_true rfl) ?_
      refine k_iload eX12_weeks_165 rfl ?_
      refine k_ireturn eX12_weeks_167 rfl rfl ?_
      exact ⟨rfl, rfl⟩
    refine k_iload eX12_weeks_77 rfl ?_
    refine k_iload eX12_weeks_79 rfl ?_
    refine k_icmp_geN 161 eX12_weeks_81 (by decide) (by omega) (by omega) (fun c_81 => ?_) (fun c_81 => by exfalso; omega)
    refine k_aload_n eX12_weeks_161 rfl ?_
    refine cV0 (M' := MX12_noChanges) eX12_weeks_162 mX12_159 wX12_noChanges vX12_noChanges ⟨_, _, _, rfl, rfl, rfl⟩ rfl (pX12_noChanges (S := (sa C 61 (wkP p d0 (mkE C u i) m))) ) (by omega) (Nat.le_of_ble_eq_true rfl) ?_
    refine k_iload eX12_weeks_165 rfl ?_
    refine k_ireturn eX12_weeks_167 rfl rfl ?_
    exact ⟨rfl, rfl⟩
  | succ k ih =>
    intro j hj
    refine k_aload_n eX12_weeks_66 rfl ?_
    refine GX12_80 eX12_weeks_67 rfl ?_
    refine k_iload_n eX12_weeks_70 rfl ?_
    refine k_ialdN (j := u) eX12_weeks_71 (ar74 _) (by omega) (Nat.le_of_ble_eq_true rfl) ?_
    refine k_bipush (v := (-2)) eX12_weeks_72 (by decide) ?_
    refine k_icmp_ne 161 eX12_weeks_74 (by decide) (fun c_74 => ?_) (fun c_74 => ?_)
    · refine k_aload_n eX12_weeks_161 rfl ?_
      refine cV0 (M' := MX12_noChanges) eX12_weeks_162 mX12_159 wX12_noChanges vX12_noChanges ⟨_, _, _, rfl, rfl, rfl⟩ rfl (pX12_noChanges (S := (sa C 61 (wkP p d0 (mkE C u i) j))) ) (by omega) (Nat.le_of_ble_eq_true rfl) ?_
      refine k_iload eX12_weeks_165 rfl ?_
      refine k_ireturn eX12_weeks_167 rfl rfl ?_
      have eL : ldN (mkG C u d0 i m) (k + 1) j = j := by rw [ldN, if_neg (fun q : mkG C u d0 i m j => by first | exact c_74 q.1 | exact absurd q.2.2.1 (Int32.not_le.mpr c_86) | exact absurd q.2.2.2.1 (Int32.not_lt.mpr c_97) | exact c_107 ⟨nI_pos' (by omega), nI_le (by omega) (by omega)⟩ | exact absurd q.2.2.2.2.1 (by rw [pD_N (by omega)] at c_107; omega) | exact c_127 q.2.2.2.2.2)]
      rw [eL]
      exact ⟨rfl, rfl⟩
    refine k_iload eX12_weeks_77 rfl ?_
    refine k_iload eX12_weeks_79 rfl ?_
    refine k_icmp_geN 161 eX12_weeks_81 (by decide) (by omega) (by omega) (fun c_81 => by exfalso; omega) (fun c_81 => ?_)
    refine k_iload eX12_weeks_84 rfl ?_
    refine k_if_lt 161 eX12_weeks_86 (by decide) (fun c_86 => ?_) (fun c_86 => ?_)
    · refine k_aload_n eX12_weeks_161 rfl ?_
      refine cV0 (M' := MX12_noChanges) eX12_weeks_162 mX12_159 wX12_noChanges vX12_noChanges ⟨_, _, _, rfl, rfl, rfl⟩ rfl (pX12_noChanges (S := (sa C 61 (wkP p d0 (mkE C u i) j))) ) (by omega) (Nat.le_of_ble_eq_true rfl) ?_
      refine k_iload eX12_weeks_165 rfl ?_
      refine k_ireturn eX12_weeks_167 rfl rfl ?_
      have eL : ldN (mkG C u d0 i m) (k + 1) j = j := by rw [ldN, if_neg (fun q : mkG C u d0 i m j => by first | exact c_74 q.1 | exact absurd q.2.2.1 (Int32.not_le.mpr c_86) | exact absurd q.2.2.2.1 (Int32.not_lt.mpr c_97) | exact c_107 ⟨nI_pos' (by omega), nI_le (by omega) (by omega)⟩ | exact absurd q.2.2.2.2.1 (by rw [pD_N (by omega)] at c_107; omega) | exact c_127 q.2.2.2.2.2)]
      rw [eL]
      exact ⟨rfl, rfl⟩
    refine k_iload eX12_weeks_89 rfl ?_
    refine k_aload_n eX12_weeks_91 rfl ?_
    refine GX12_86 eX12_weeks_92 rfl ?_
    refine k_iload_n eX12_weeks_95 rfl ?_
    refine k_ialdN (j := u) eX12_weeks_96 (ar76 _) (by omega) (Nat.le_of_ble_eq_true rfl) ?_
    refine k_icmp_ge 161 eX12_weeks_97 (by decide) (fun c_97 => ?_) (fun c_97 => ?_)
    · refine k_aload_n eX12_weeks_161 rfl ?_
      refine cV0 (M' := MX12_noChanges) eX12_weeks_162 mX12_159 wX12_noChanges vX12_noChanges ⟨_, _, _, rfl, rfl, rfl⟩ rfl (pX12_noChanges (S := (sa C 61 (wkP p d0 (mkE C u i) j))) ) (by omega) (Nat.le_of_ble_eq_true rfl) ?_
      refine k_iload eX12_weeks_165 rfl ?_
      refine k_ireturn eX12_weeks_167 rfl rfl ?_
      have eL : ldN (mkG C u d0 i m) (k + 1) j = j := by rw [ldN, if_neg (fun q : mkG C u d0 i m j => by first | exact c_74 q.1 | exact absurd q.2.2.1 (Int32.not_le.mpr c_86) | exact absurd q.2.2.2.1 (Int32.not_lt.mpr c_97) | exact c_107 ⟨nI_pos' (by omega), nI_le (by omega) (by omega)⟩ | exact absurd q.2.2.2.2.1 (by rw [pD_N (by omega)] at c_107; omega) | exact c_127 q.2.2.2.2.2)]
      rw [eL]
      exact ⟨rfl, rfl⟩
    
    refine k_iload_n eX12_weeks_100 rfl ?_
    refine k_iload eX12_weeks_101 rfl ?_
    refine k_iaddN eX12_weeks_103 ?_
    refine cS1 (M' := MX12_isDay) eX12_weeks_104 mX12_131 wX12_isDay sX12_isDay rfl (pX12_isDay (nI (d0 + j))) (by omega) (Nat.le_of_ble_eq_true rfl) ?_
    refine k_ifb_eq 161 eX12_weeks_107 (by decide) (fun c_107 => ?_) (fun c_107 => ?_)
    · refine k_aload_n eX12_weeks_161 rfl ?_
      refine cV0 (M' := MX12_noChanges) eX12_weeks_162 mX12_159 wX12_noChanges vX12_noChanges ⟨_, _, _, rfl, rfl, rfl⟩ rfl (pX12_noChanges (S := (sa C 61 (wkP p d0 (mkE C u i) j))) ) (by omega) (Nat.le_of_ble_eq_true rfl) ?_
      refine k_iload eX12_weeks_165 rfl ?_
      refine k_ireturn eX12_weeks_167 rfl rfl ?_
      have eL : ldN (mkG C u d0 i m) (k + 1) j = j := by rw [ldN, if_neg (fun q : mkG C u d0 i m j => by first | exact c_74 q.1 | exact absurd q.2.2.1 (Int32.not_le.mpr c_86) | exact absurd q.2.2.2.1 (Int32.not_lt.mpr c_97) | exact c_107 ⟨nI_pos' (by omega), nI_le (by omega) (by omega)⟩ | exact absurd q.2.2.2.2.1 (by rw [pD_N (by omega)] at c_107; omega) | exact c_127 q.2.2.2.2.2)]
      rw [eL]
      exact ⟨rfl, rfl⟩
    have hdj : d0 + j < 120 := (pD_N (by omega)).mp c_107
    obtain ⟨q, hq60, eq6⟩ := hsh.pl hkn50 hu c_74 (Int32.not_lt.mp c_86) (Int32.not_le.mp c_97)
    have eqE : mkE C u i j = C.2.2 77 (60 * u + q) := by rw [mkE, eq6, ix_nI (by omega), Nat.mul_comm 60 u]
    refine k_loc (L2 := [_, _, _, _, _, _, .int (nI q)]) (by rw [eq6]) ?_
    refine k_aload_n eX12_weeks_110 rfl ?_
    refine k_aload_n eX12_weeks_111 rfl ?_
    refine GX12_89 eX12_weeks_112 rfl ?_
    refine k_bipush (v := nI 60) eX12_weeks_115 (by decide) ?_
    refine k_iload_n eX12_weeks_117 rfl ?_
    refine k_imulN eX12_weeks_118 ?_
    refine k_iload eX12_weeks_119 rfl ?_
    refine k_iaddN eX12_weeks_121 ?_
    refine k_laldN (j := ((60 * u) + q)) eX12_weeks_122 (ar77 _) (by omega) (Nat.le_of_ble_eq_true rfl) ?_
    refine k_topl ((mkE C u i j)) eqE.symm ?_
    refine k_l2i eX12_weeks_123 ?_
    refine cV1 (M' := MX12_isWork) eX12_weeks_124 mX12_153 wX12_isWork vX12_isWork ⟨_, _, _, rfl, rfl, rfl⟩ rfl (pX12_isWork (S := (sa C 61 (wkP p d0 (mkE C u i) j))) (wk := wk) hwk hwk6 (((mkE C u i j)).toInt32)) (by omega) (Nat.le_of_ble_eq_true rfl) ?_
    refine k_ifb_eq 161 eX12_weeks_127 (by decide) (fun c_127 => ?_) (fun c_127 => ?_)
    · refine k_aload_n eX12_weeks_161 rfl ?_
      refine cV0 (M' := MX12_noChanges) eX12_weeks_162 mX12_159 wX12_noChanges vX12_noChanges ⟨_, _, _, rfl, rfl, rfl⟩ rfl (pX12_noChanges (S := (sa C 61 (wkP p d0 (mkE C u i) j))) ) (by omega) (Nat.le_of_ble_eq_true rfl) ?_
      refine k_iload eX12_weeks_165 rfl ?_
      refine k_ireturn eX12_weeks_167 rfl rfl ?_
      have eL : ldN (mkG C u d0 i m) (k + 1) j = j := by rw [ldN, if_neg (fun q : mkG C u d0 i m j => by first | exact c_74 q.1 | exact absurd q.2.2.1 (Int32.not_le.mpr c_86) | exact absurd q.2.2.2.1 (Int32.not_lt.mpr c_97) | exact c_107 ⟨nI_pos' (by omega), nI_le (by omega) (by omega)⟩ | exact absurd q.2.2.2.2.1 (by rw [pD_N (by omega)] at c_107; omega) | exact c_127 q.2.2.2.2.2)]
      rw [eL]
      exact ⟨rfl, rfl⟩
    refine k_aload_n eX12_weeks_130 rfl ?_
    refine GX12_38 eX12_weeks_131 rfl ?_
    refine k_iload_n eX12_weeks_134 rfl ?_
    refine k_iload eX12_weeks_135 rfl ?_
    refine k_iaddN eX12_weeks_137 ?_
    refine k_aload_n eX12_weeks_138 rfl ?_
    refine GX12_89 eX12_weeks_139 rfl ?_
    refine k_bipush (v := nI 60) eX12_weeks_142 (by decide) ?_
    refine k_iload_n eX12_weeks_144 rfl ?_
    refine k_imulN eX12_weeks_145 ?_
    refine k_iload eX12_weeks_146 rfl ?_
    refine k_iaddN eX12_weeks_148 ?_
    refine k_laldN (j := ((60 * u) + q)) eX12_weeks_149 (ar77 _) (by omega) (Nat.le_of_ble_eq_true rfl) ?_
    refine k_topl ((mkE C u i j)) eqE.symm ?_
    refine k_l2i eX12_weeks_150 ?_
    refine k_iastN (j := (d0 + j)) eX12_weeks_151 (ar61 _) (by omega) (Nat.le_of_ble_eq_true rfl) (as61 _ _) ?_
    refine k_iincN (g := 1) (a := j) (L2 := [_, _, _, _, _, _, _]) eX12_weeks_152 (Nat.le_of_ble_eq_true rfl) rfl rfl ?_
    refine k_iincN (g := 1) (a := q) (L2 := [_, _, _, _, _, _, _]) eX12_weeks_155 (Nat.le_of_ble_eq_true rfl) rfl rfl ?_
    refine k_goto 66 eX12_weeks_158 (by decide) ?_
    have hg : mkG C u d0 i m j := ⟨c_74, by omega, Int32.not_lt.mp c_86, Int32.not_le.mp c_97, by omega, c_127⟩
    have eL : ldN (mkG C u d0 i m) (k + 1) j = ldN (mkG C u d0 i m) k (j + 1) := by rw [ldN, if_pos hg]
    rw [eL]
    refine k_loc (L2 := [_, _, _, _, _, _, .int (i + nI (j + 1))]) (by rw [show nI (q + 1) = i + nI (j + 1) from by rw [show nI (q + 1) = nI q + nI 1 from (nI_add _ _).symm, show nI (j + 1) = nI j + nI 1 from (nI_add _ _).symm, ← eq6, Int32.add_assoc]] <;> rfl) ?_
    rw [sa_sa]
    exact ih (j + 1) (by omega)
set_option maxHeartbeats 400000 in
theorem pX12_weeks {S : k_S} {kn : Nat} (hsh : mShOk S kn) (hkn50 : kn ≤ 50) {wk : Nat} (hwk : S.1 2600 = nI wk) (hwk6 : wk ≤ 6) (dy s i n : Int32) : Sp 2 0 0 MX12_weeks [.ref 52, .int (dy), .int (s), .int (i), .int (n)] (hp S) (Rt (some (.int (aMWks S dy s i n))) (hp (mWks S dy s i n))) := by
  refine Sp_of (by decide +kernel) (Nat.le_of_ble_eq_true rfl) ?_
  show AW none MX12_weeks 2 0 0 0 [.ref 52, .int (dy), .int (s), .int (i), .int (n), .null, .null] [] (hp S) _
  refine k_iload_n eX12_weeks_0 rfl ?_
  refine cS1 (M' := MX12_isDay) eX12_weeks_1 mX12_131 wX12_isDay sX12_isDay rfl (pX12_isDay (dy)) (by decide) (Nat.le_of_ble_eq_true rfl) ?_
  refine k_ifb_eq 25 eX12_weeks_4 (by decide) (fun c_4 => ?_) (fun c_4 => ?_)
  · refine k_iconst (v := (-1)) eX12_weeks_25 (by decide) ?_
    refine k_ireturn eX12_weeks_26 rfl rfl ?_
    exact ⟨by rw [aMWks, if_neg (fun q => by first | exact c_4 q.1 | exact c_11 q.2.1 | exact c_22 q.2.2)], by rw [mWks, if_neg (fun q => by first | exact c_4 q.1 | exact c_11 q.2.1 | exact c_22 q.2.2)]⟩
  refine k_iload_n eX12_weeks_7 rfl ?_
  refine cS1 (M' := MX12_isShelf) eX12_weeks_8 mX12_156 wX12_isShelf sX12_isShelf rfl (pX12_isShelf (s)) (by decide) (Nat.le_of_ble_eq_true rfl) ?_
  refine k_ifb_eq 25 eX12_weeks_11 (by decide) (fun c_11 => ?_) (fun c_11 => ?_)
  · refine k_iconst (v := (-1)) eX12_weeks_25 (by decide) ?_
    refine k_ireturn eX12_weeks_26 rfl rfl ?_
    exact ⟨by rw [aMWks, if_neg (fun q => by first | exact c_4 q.1 | exact c_11 q.2.1 | exact c_22 q.2.2)], by rw [mWks, if_neg (fun q => by first | exact c_4 q.1 | exact c_11 q.2.1 | exact c_22 q.2.2)]⟩
  refine k_iload eX12_weeks_14 rfl ?_
  refine k_iconst (v := nI 1) eX12_weeks_16 (by decide) ?_
  refine k_bipush (v := nI 60) eX12_weeks_17 (by decide) ?_
  refine cS1 (M' := MX12_in) eX12_weeks_19 mX12_120 wX12_in sX12_in rfl (pX12_in (n) (nI 1) (nI 60)) (by decide) (Nat.le_of_ble_eq_true rfl) ?_
  refine k_ifb_ne 27 eX12_weeks_22 (by decide) (fun c_22 => ?_) (fun c_22 => ?_)
  · have hC : pWks dy s n := ⟨c_4, c_11, c_22⟩
    obtain ⟨d0, hd0, rfl⟩ := pD_ex c_4
    obtain ⟨u, hu, rfl⟩ := k_rng c_11.1 c_11.2 (by decide)
    obtain ⟨m, hm, rfl⟩ := k_rngle (Int32.le_trans (by decide) c_22.1) c_22.2 (by decide)
    refine k_aload_n eX12_weeks_27 rfl ?_
    refine GX12_80 eX12_weeks_28 rfl ?_
    refine k_iload_n eX12_weeks_31 rfl ?_
    refine k_ialdN (j := u) eX12_weeks_32 (ar74 _) (by omega) (Nat.le_of_ble_eq_true rfl) ?_
    refine k_iconst (v := (-1)) eX12_weeks_33 (by decide) ?_
    refine k_icmp_eq 60 eX12_weeks_34 (by decide) (fun c_34 => ?_) (fun c_34 => ?_)
    · refine k_iconst (v := nI 0) eX12_weeks_60 (by decide) ?_
      refine k_istore (L2 := [_, _, _, _, _, _, _]) eX12_weeks_61 (Nat.le_of_ble_eq_true rfl) rfl ?_
      refine k_iload_n eX12_weeks_63 rfl ?_
      refine k_istore (L2 := [_, _, _, _, _, _, _]) eX12_weeks_64 (Nat.le_of_ble_eq_true rfl) rfl ?_
      have hO : ¬ pMOth S (nI u) := by
        rw [pMOth, ix_nI (by omega)]
        rintro ⟨q1, q2⟩
        first
        | exact absurd c_34 q1
        | exact q2.elim (fun z => z c_45) (fun z => z c_54)
      refine k_loc (L2 := [_, _, _, _, _, .int (nI 0), .int (i + nI 0)]) (by rw [addz] <;> rfl) ?_
      rw [aMWks, mWks, if_pos hC, if_pos hC, if_neg hO, if_neg hO, mwcN, ix_nI (by omega), ix_nI (by omega), ix_nI (by omega)]
      refine k_heap (h2 := hp (sa S 61 (wkP (S.2.1 61) d0 (mkE S u i) 0))) (by rw [wkP, sa_self]) ?_
      exact lX12_weeks (by decide) (C := S) (p := S.2.1 61) hsh hkn50 hwk hwk6 hd0 hu hm i m 0 (by omega)
    refine k_aload_n eX12_weeks_37 rfl ?_
    refine GX12_80 eX12_weeks_38 rfl ?_
    refine k_iload_n eX12_weeks_41 rfl ?_
    refine k_ialdN (j := u) eX12_weeks_42 (ar74 _) (by omega) (Nat.le_of_ble_eq_true rfl) ?_
    refine k_bipush (v := (-2)) eX12_weeks_43 (by decide) ?_
    refine k_icmp_ne 57 eX12_weeks_45 (by decide) (fun c_45 => ?_) (fun c_45 => ?_)
    · refine k_bipush (v := (-12)) eX12_weeks_57 (by decide) ?_
      refine k_ireturn eX12_weeks_59 rfl rfl ?_
      have hO : pMOth S (nI u) := by
        rw [pMOth, ix_nI (by omega)]
        first
        | exact ⟨c_34, Or.inl c_45⟩
        | exact ⟨c_34, Or.inr c_54⟩
      exact ⟨by rw [aMWks, if_pos hC, if_pos hO], by rw [mWks, if_pos hC, if_pos hO]⟩
    refine k_aload_n eX12_weeks_48 rfl ?_
    refine GX12_83 eX12_weeks_49 rfl ?_
    refine k_iload_n eX12_weeks_52 rfl ?_
    refine k_ialdN (j := u) eX12_weeks_53 (ar75 _) (by omega) (Nat.le_of_ble_eq_true rfl) ?_
    refine k_if_eq 60 eX12_weeks_54 (by decide) (fun c_54 => ?_) (fun c_54 => ?_)
    · refine k_iconst (v := nI 0) eX12_weeks_60 (by decide) ?_
      refine k_istore (L2 := [_, _, _, _, _, _, _]) eX12_weeks_61 (Nat.le_of_ble_eq_true rfl) rfl ?_
      refine k_iload_n eX12_weeks_63 rfl ?_
      refine k_istore (L2 := [_, _, _, _, _, _, _]) eX12_weeks_64 (Nat.le_of_ble_eq_true rfl) rfl ?_
      have hO : ¬ pMOth S (nI u) := by
        rw [pMOth, ix_nI (by omega)]
        rintro ⟨q1, q2⟩
        first
        | exact absurd c_34 q1
        | exact q2.elim (fun z => z c_45) (fun z => z c_54)
      refine k_loc (L2 := [_, _, _, _, _, .int (nI 0), .int (i + nI 0)]) (by rw [addz] <;> rfl) ?_
      rw [aMWks, mWks, if_pos hC, if_pos hC, if_neg hO, if_neg hO, mwcN, ix_nI (by omega), ix_nI (by omega), ix_nI (by omega)]
      refine k_heap (h2 := hp (sa S 61 (wkP (S.2.1 61) d0 (mkE S u i) 0))) (by rw [wkP, sa_self]) ?_
      exact lX12_weeks (by decide) (C := S) (p := S.2.1 61) hsh hkn50 hwk hwk6 hd0 hu hm i m 0 (by omega)
    refine k_bipush (v := (-12)) eX12_weeks_57 (by decide) ?_
    refine k_ireturn eX12_weeks_59 rfl rfl ?_
    have hO : pMOth S (nI u) := by
      rw [pMOth, ix_nI (by omega)]
      first
      | exact ⟨c_34, Or.inl c_45⟩
      | exact ⟨c_34, Or.inr c_54⟩
    exact ⟨by rw [aMWks, if_pos hC, if_pos hO], by rw [mWks, if_pos hC, if_pos hO]⟩
  refine k_iconst (v := (-1)) eX12_weeks_25 (by decide) ?_
  refine k_ireturn eX12_weeks_26 rfl rfl ?_
  exact ⟨by rw [aMWks, if_neg (fun q => by first | exact c_4 q.1 | exact c_11 q.2.1 | exact c_22 q.2.2)], by rw [mWks, if_neg (fun q => by first | exact c_4 q.1 | exact c_11 q.2.1 | exact c_22 q.2.2)]⟩
