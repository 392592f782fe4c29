/-! THE LAW's own numbers, off the script of Ns ints xs -/
def scr (Ns : Nat) (xs : Nat → Int32) (k : Nat) : Int32 := if k < Ns then xs k else nI 0
def lo (k : Nat) (x : Int32) : Nat := x.toBitVec.toNat % 2 ^ k
theorem lo_lt (k : Nat) (x : Int32) : lo k x < 2 ^ k := Nat.mod_lt _ (Nat.two_pow_pos k)
theorem lo_and (k : Nat) (x : Int32) {m : Int32} (hm : m.toBitVec.toNat = 2 ^ k - 1) : x &&& m = nI (lo k x) := pk_and x k hm
def shr (s : Nat) (x : Int32) : Int32 := x >>> (nI s &&& 31)
section LW
variable (Ns : Nat) (xs : Nat → Int32)
def tiN (w : Nat) : Nat := if w = 0 then 0 else lo 7 (scr Ns xs w) % 100
def stN (w : Nat) : Nat := if w = 0 then 0 else lo 7 (shr 7 (scr Ns xs w)) % 100
def hoN (w : Nat) : Nat := if w = 0 then 0 else lo 4 (shr 14 (scr Ns xs w)) % 10
def faN (r : Nat) : Nat := 1 + lo 9 (scr Ns xs (4 + r))
def slN (r : Nat) : Nat := 1 + lo 7 (shr 9 (scr Ns xs (4 + r)))
def giN (r : Nat) : Nat := 500 + lo 10 (shr 16 (scr Ns xs (4 + r))) % 1001
def plN (d : Nat) : Nat := if 39 < d then 0 else lo 2 (shr (2 * (d % 15)) (scr Ns xs (6 + d / 15)))
def coN9 : Nat := lo 2 (scr Ns xs 9)
def daN (c : Nat) : Nat := 37 * c + lo 5 (shr (2 + 5 * c) (scr Ns xs 9))
def weN (c : Nat) : Nat := 1 + lo 3 (shr (17 + 3 * c) (scr Ns xs 9))
def loN : Nat := 1 + lo 5 (shr 16 (scr Ns xs 0))
def ptL (r w k : Nat) : Int32 := nI (stN Ns xs w) * nI (giN Ns xs r) / nI 1000 * lft (nI (slN Ns xs r)) k - nI (tiN Ns xs w) * lft (nI (faN Ns xs r)) k
end LW
theorem b_ti (Ns : Nat) (xs : Nat → Int32) (w : Nat) : tiN Ns xs w ≤ 99 := by unfold tiN; split <;> omega
theorem b_st (Ns : Nat) (xs : Nat → Int32) (w : Nat) : stN Ns xs w ≤ 99 := by unfold stN; split <;> omega
theorem b_ho (Ns : Nat) (xs : Nat → Int32) (w : Nat) : hoN Ns xs w ≤ 9 := by unfold hoN; split <;> omega
theorem b_fa (Ns : Nat) (xs : Nat → Int32) (r : Nat) : faN Ns xs r ≤ 512 ∧ 1 ≤ faN Ns xs r := by unfold faN; have := lo_lt 9 (scr Ns xs (4 + r)); omega
theorem b_sl (Ns : Nat) (xs : Nat → Int32) (r : Nat) : slN Ns xs r ≤ 128 ∧ 1 ≤ slN Ns xs r := by unfold slN; have := lo_lt 7 (shr 9 (scr Ns xs (4 + r))); omega
theorem b_gi (Ns : Nat) (xs : Nat → Int32) (r : Nat) : giN Ns xs r ≤ 1500 ∧ 500 ≤ giN Ns xs r := by unfold giN; omega
theorem b_pl (Ns : Nat) (xs : Nat → Int32) (d : Nat) : plN Ns xs d ≤ 3 := by
  unfold plN
  split
  · omega
  · have := lo_lt 2 (shr (2 * (d % 15)) (scr Ns xs (6 + d / 15))); omega
theorem b_co (Ns : Nat) (xs : Nat → Int32) : coN9 Ns xs ≤ 3 := by unfold coN9; have := lo_lt 2 (scr Ns xs 9); omega
theorem b_da (Ns : Nat) (xs : Nat → Int32) (c : Nat) : 37 * c ≤ daN Ns xs c ∧ daN Ns xs c ≤ 37 * c + 31 := by unfold daN; have := lo_lt 5 (shr (2 + 5 * c) (scr Ns xs 9)); omega
theorem b_we (Ns : Nat) (xs : Nat → Int32) (c : Nat) : 1 ≤ weN Ns xs c ∧ weN Ns xs c ≤ 8 := by unfold weN; have := lo_lt 3 (shr (17 + 3 * c) (scr Ns xs 9)); omega
theorem b_lo (Ns : Nat) (xs : Nat → Int32) : 1 ≤ loN Ns xs ∧ loN Ns xs ≤ 32 := by unfold loN; have := lo_lt 5 (shr 16 (scr Ns xs 0)); omega
theorem k_scr {M : k_M} {d bc bs pc n : Nat} {L st : List Value} {h : k_H} {Po : Option Value → k_H → Prop} {Ns : Nat} {xs : Nat → Int32} {j : Nat} (hd : k_dc M pc .iaload 1 n) (hj : j < Ns) (hN : Ns ≤ 260) (k : AW (some (Ns, xs)) M d bc bs n L (.int (xs j) :: st) h Po) : AW (some (Ns, xs)) M d bc bs pc L (.int (nI j) :: .retAddr 0 :: st) h Po := by
  have e : (nI j).toNatClampNeg = j := ix_nI (by omega)
  refine k_ialdT hd (fun q => by cases q) ?_ ?_
  · rintro (q | q)
    · exact nI_pos (by omega) q
    · rw [e] at q
      have q2 : Ns ≤ j := q
      omega
  · rw [e]; exact k
set_option maxHeartbeats 1000000 in
theorem pL_at {h : k_H} {Ns : Nat} {xs : Nat → Int32} (hN : Ns ≤ 260) {k : Nat} (hk : k < 2 ^ 31) : SpX (some (Ns, xs)) 0 0 0 ML_at [.retAddr 0, .int (nI k)] h (Rt (some (.int (scr Ns xs k))) h) := by
  refine SpX_of (by decide +kernel) (Nat.le_of_ble_eq_true rfl) ?_
  show AW (some (Ns, xs)) ML_at 0 0 0 0 [.retAddr 0, .int (nI k)] [] h _
  refine k_iload_n eL_at_0 rfl ?_
  refine k_aloadT eL_at_1 rfl ?_
  refine k_alenT eL_at_2 (fun q => by cases q) ?_
  refine k_topi (nI Ns) rfl ?_
  refine k_icmp_geN 12 eL_at_3 (by decide) (by omega) (by omega) (fun c_3 => ?_) (fun c_3 => ?_)
  · refine k_iconst (v := nI 0) eL_at_12 (by decide) ?_
    refine k_ireturn eL_at_13 rfl rfl ?_
    exact ⟨by rw [scr, if_neg (by omega)], rfl⟩
  refine k_aloadT eL_at_6 rfl ?_
  refine k_iload_n eL_at_7 rfl ?_
  refine k_scr eL_at_8 (by omega) hN ?_
  refine k_goto 13 eL_at_9 (by decide) ?_
  refine k_ireturn eL_at_13 rfl rfl ?_
  exact ⟨by rw [scr, if_pos c_3], rfl⟩
set_option maxHeartbeats 1000000 in
theorem pL_tires {h : k_H} {Ns : Nat} {xs : Nat → Int32} (hN : Ns ≤ 260) {w : Nat} (hw : w < 2 ^ 31) : SpX (some (Ns, xs)) 1 0 0 ML_tires [.retAddr 0, .int (nI w)] h (Rt (some (.int (nI (tiN Ns xs w)))) h) := by
  refine SpX_of (by decide +kernel) (Nat.le_of_ble_eq_true rfl) ?_
  show AW (some (Ns, xs)) ML_tires 1 0 0 0 [.retAddr 0, .int (nI w)] [] h _
  refine k_iload_n eL_tires_0 rfl ?_
  refine k_if_neN 8 eL_tires_1 (by decide) (by omega) (fun c_1 => ?_) (fun c_1 => ?_)
  · refine k_aloadT eL_tires_8 rfl ?_
    refine k_iload_n eL_tires_9 rfl ?_
    refine k_callSX (M' := ML_at) (bc' := 0) (bs' := 0) (bc2 := 0) (bs2 := 0) eL_tires_10 mL_70 wL_at sL_at rfl (pL_at (k := w) hN (by omega)) (by decide) ⟨rfl, rfl⟩ (Nat.le_of_ble_eq_true rfl) ?_
    rintro r h1 ⟨rfl, e1⟩
    obtain rfl := e1.symm
    refine k_bipush (v := nI 127) eL_tires_13 (by decide) ?_
    refine k_iand eL_tires_15 ?_
    refine k_topi (nI (lo 7 (scr Ns xs w))) (lo_and 7 _ (by decide)) ?_
    have hlo := lo_lt 7 (scr Ns xs w)
    refine k_bipush (v := nI 100) eL_tires_16 (by decide) ?_
    refine k_iremN eL_tires_18 (by omega) (by omega) (by omega) ?_
    refine k_ireturn eL_tires_19 rfl rfl ?_
    exact ⟨by rw [tiN, if_neg (by omega)], rfl⟩
  refine k_iconst (v := nI 0) eL_tires_4 (by decide) ?_
  refine k_goto 19 eL_tires_5 (by decide) ?_
  refine k_ireturn eL_tires_19 rfl rfl ?_
  exact ⟨by rw [tiN, if_pos (by omega)], rfl⟩
set_option maxHeartbeats 1000000 in
theorem pL_strong {h : k_H} {Ns : Nat} {xs : Nat → Int32} (hN : Ns ≤ 260) {w : Nat} (hw : w < 2 ^ 31) : SpX (some (Ns, xs)) 1 0 0 ML_strong [.retAddr 0, .int (nI w)] h (Rt (some (.int (nI (stN Ns xs w)))) h) := by
  refine SpX_of (by decide +kernel) (Nat.le_of_ble_eq_true rfl) ?_
  show AW (some (Ns, xs)) ML_strong 1 0 0 0 [.retAddr 0, .int (nI w)] [] h _
  refine k_iload_n eL_strong_0 rfl ?_
  refine k_if_neN 8 eL_strong_1 (by decide) (by omega) (fun c_1 => ?_) (fun c_1 => ?_)
  · refine k_aloadT eL_strong_8 rfl ?_
    refine k_iload_n eL_strong_9 rfl ?_
    refine k_callSX (M' := ML_at) (bc' := 0) (bs' := 0) (bc2 := 0) (bs2 := 0) eL_strong_10 mL_70 wL_at sL_at rfl (pL_at (k := w) hN (by omega)) (by decide) ⟨rfl, rfl⟩ (Nat.le_of_ble_eq_true rfl) ?_
    rintro r h1 ⟨rfl, e1⟩
    obtain rfl := e1.symm
    refine k_bipush (v := nI 7) eL_strong_13 (by decide) ?_
    refine k_ishr eL_strong_15 ?_
    refine k_topi ((shr 7 (scr Ns xs w))) rfl ?_
    refine k_bipush (v := nI 127) eL_strong_16 (by decide) ?_
    refine k_iand eL_strong_18 ?_
    refine k_topi (nI (lo 7 (shr 7 (scr Ns xs w)))) (lo_and 7 _ (by decide)) ?_
    have hlo := lo_lt 7 (shr 7 (scr Ns xs w))
    refine k_bipush (v := nI 100) eL_strong_19 (by decide) ?_
    refine k_iremN eL_strong_21 (by omega) (by omega) (by omega) ?_
    refine k_ireturn eL_strong_22 rfl rfl ?_
    exact ⟨by rw [stN, if_neg (by omega)], rfl⟩
  refine k_iconst (v := nI 0) eL_strong_4 (by decide) ?_
  refine k_goto 22 eL_strong_5 (by decide) ?_
  refine k_ireturn eL_strong_22 rfl rfl ?_
  exact ⟨by rw [stN, if_pos (by omega)], rfl⟩
set_option maxHeartbeats 1000000 in
theorem pL_hours {h : k_H} {Ns : Nat} {xs : Nat → Int32} (hN : Ns ≤ 260) {w : Nat} (hw : w < 2 ^ 31) : SpX (some (Ns, xs)) 1 0 0 ML_hours [.retAddr 0, .int (nI w)] h (Rt (some (.int (nI (hoN Ns xs w)))) h) := by
  refine SpX_of (by decide +kernel) (Nat.le_of_ble_eq_true rfl) ?_
  show AW (some (Ns, xs)) ML_hours 1 0 0 0 [.retAddr 0, .int (nI w)] [] h _
  refine k_iload_n eL_hours_0 rfl ?_
  refine k_if_neN 8 eL_hours_1 (by decide) (by omega) (fun c_1 => ?_) (fun c_1 => ?_)
  · refine k_aloadT eL_hours_8 rfl ?_
    refine k_iload_n eL_hours_9 rfl ?_
    refine k_callSX (M' := ML_at) (bc' := 0) (bs' := 0) (bc2 := 0) (bs2 := 0) eL_hours_10 mL_70 wL_at sL_at rfl (pL_at (k := w) hN (by omega)) (by decide) ⟨rfl, rfl⟩ (Nat.le_of_ble_eq_true rfl) ?_
    rintro r h1 ⟨rfl, e1⟩
    obtain rfl := e1.symm
    refine k_bipush (v := nI 14) eL_hours_13 (by decide) ?_
    refine k_ishr eL_hours_15 ?_
    refine k_topi ((shr 14 (scr Ns xs w))) rfl ?_
    refine k_bipush (v := nI 15) eL_hours_16 (by decide) ?_
    refine k_iand eL_hours_18 ?_
    refine k_topi (nI (lo 4 (shr 14 (scr Ns xs w)))) (lo_and 4 _ (by decide)) ?_
    have hlo := lo_lt 4 (shr 14 (scr Ns xs w))
    refine k_bipush (v := nI 10) eL_hours_19 (by decide) ?_
    refine k_iremN eL_hours_21 (by omega) (by omega) (by omega) ?_
    refine k_ireturn eL_hours_22 rfl rfl ?_
    exact ⟨by rw [hoN, if_neg (by omega)], rfl⟩
  refine k_iconst (v := nI 0) eL_hours_4 (by decide) ?_
  refine k_goto 22 eL_hours_5 (by decide) ?_
  refine k_ireturn eL_hours_22 rfl rfl ?_
  exact ⟨by rw [hoN, if_pos (by omega)], rfl⟩
set_option maxHeartbeats 1000000 in
theorem pL_fast {h : k_H} {Ns : Nat} {xs : Nat → Int32} (hN : Ns ≤ 260) {r : Nat} (hr : r < 2) : SpX (some (Ns, xs)) 1 0 0 ML_fast [.retAddr 0, .int (nI r)] h (Rt (some (.int (nI (faN Ns xs r)))) h) := by
  refine SpX_of (by decide +kernel) (Nat.le_of_ble_eq_true rfl) ?_
  show AW (some (Ns, xs)) ML_fast 1 0 0 0 [.retAddr 0, .int (nI r)] [] h _
  refine k_iconst (v := nI 1) eL_fast_0 (by decide) ?_
  refine k_aloadT eL_fast_1 rfl ?_
  refine k_iconst (v := nI 4) eL_fast_2 (by decide) ?_
  refine k_iload_n eL_fast_3 rfl ?_
  refine k_iaddN eL_fast_4 ?_
  refine k_callSX (M' := ML_at) (bc' := 0) (bs' := 0) (bc2 := 0) (bs2 := 0) eL_fast_5 mL_70 wL_at sL_at rfl (pL_at (k := (4 + r)) hN (by omega)) (by decide) ⟨rfl, rfl⟩ (Nat.le_of_ble_eq_true rfl) ?_
  rintro r h1 ⟨rfl, e1⟩
  obtain rfl := e1.symm
  refine k_sipush (v := nI 511) eL_fast_8 (by decide) ?_
  refine k_iand eL_fast_11 ?_
  refine k_topi (nI (lo 9 (scr Ns xs (4 + r)))) (lo_and 9 _ (by decide)) ?_
  refine k_iaddN eL_fast_12 ?_
  refine k_ireturn eL_fast_13 rfl rfl ?_
  exact ⟨rfl, rfl⟩
set_option maxHeartbeats 1000000 in
theorem pL_slow {h : k_H} {Ns : Nat} {xs : Nat → Int32} (hN : Ns ≤ 260) {r : Nat} (hr : r < 2) : SpX (some (Ns, xs)) 1 0 0 ML_slow [.retAddr 0, .int (nI r)] h (Rt (some (.int (nI (slN Ns xs r)))) h) := by
  refine SpX_of (by decide +kernel) (Nat.le_of_ble_eq_true rfl) ?_
  show AW (some (Ns, xs)) ML_slow 1 0 0 0 [.retAddr 0, .int (nI r)] [] h _
  refine k_iconst (v := nI 1) eL_slow_0 (by decide) ?_
  refine k_aloadT eL_slow_1 rfl ?_
  refine k_iconst (v := nI 4) eL_slow_2 (by decide) ?_
  refine k_iload_n eL_slow_3 rfl ?_
  refine k_iaddN eL_slow_4 ?_
  refine k_callSX (M' := ML_at) (bc' := 0) (bs' := 0) (bc2 := 0) (bs2 := 0) eL_slow_5 mL_70 wL_at sL_at rfl (pL_at (k := (4 + r)) hN (by omega)) (by decide) ⟨rfl, rfl⟩ (Nat.le_of_ble_eq_true rfl) ?_
  rintro r h1 ⟨rfl, e1⟩
  obtain rfl := e1.symm
  refine k_bipush (v := nI 9) eL_slow_8 (by decide) ?_
  refine k_ishr eL_slow_10 ?_
  refine k_topi ((shr 9 (scr Ns xs (4 + r)))) rfl ?_
  refine k_bipush (v := nI 127) eL_slow_11 (by decide) ?_
  refine k_iand eL_slow_13 ?_
  refine k_topi (nI (lo 7 (shr 9 (scr Ns xs (4 + r))))) (lo_and 7 _ (by decide)) ?_
  refine k_iaddN eL_slow_14 ?_
  refine k_ireturn eL_slow_15 rfl rfl ?_
  exact ⟨rfl, rfl⟩
set_option maxHeartbeats 1000000 in
theorem pL_gift {h : k_H} {Ns : Nat} {xs : Nat → Int32} (hN : Ns ≤ 260) {r : Nat} (hr : r < 2) : SpX (some (Ns, xs)) 1 0 0 ML_gift [.retAddr 0, .int (nI r)] h (Rt (some (.int (nI (giN Ns xs r)))) h) := by
  refine SpX_of (by decide +kernel) (Nat.le_of_ble_eq_true rfl) ?_
  show AW (some (Ns, xs)) ML_gift 1 0 0 0 [.retAddr 0, .int (nI r)] [] h _
  refine k_sipush (v := nI 500) eL_gift_0 (by decide) ?_
  refine k_aloadT eL_gift_3 rfl ?_
  refine k_iconst (v := nI 4) eL_gift_4 (by decide) ?_
  refine k_iload_n eL_gift_5 rfl ?_
  refine k_iaddN eL_gift_6 ?_
  refine k_callSX (M' := ML_at) (bc' := 0) (bs' := 0) (bc2 := 0) (bs2 := 0) eL_gift_7 mL_70 wL_at sL_at rfl (pL_at (k := (4 + r)) hN (by omega)) (by decide) ⟨rfl, rfl⟩ (Nat.le_of_ble_eq_true rfl) ?_
  rintro r h1 ⟨rfl, e1⟩
  obtain rfl := e1.symm
  refine k_bipush (v := nI 16) eL_gift_10 (by decide) ?_
  refine k_ishr eL_gift_12 ?_
  refine k_topi ((shr 16 (scr Ns xs (4 + r)))) rfl ?_
  refine k_sipush (v := nI 1023) eL_gift_13 (by decide) ?_
  refine k_iand eL_gift_16 ?_
  refine k_topi (nI (lo 10 (shr 16 (scr Ns xs (4 + r))))) (lo_and 10 _ (by decide)) ?_
  have hlo := lo_lt 10 (shr 16 (scr Ns xs (4 + r)))
  refine k_sipush (v := nI 1001) eL_gift_17 (by decide) ?_
  refine k_iremN eL_gift_20 (by omega) (by omega) (by omega) ?_
  refine k_iaddN eL_gift_21 ?_
  refine k_ireturn eL_gift_22 rfl rfl ?_
  exact ⟨rfl, rfl⟩
set_option maxHeartbeats 1000000 in
theorem pL_plan {h : k_H} {Ns : Nat} {xs : Nat → Int32} (hN : Ns ≤ 260) {d : Nat} (hd : d < 2 ^ 31) : SpX (some (Ns, xs)) 1 0 0 ML_plan [.retAddr 0, .int (nI d)] h (Rt (some (.int (nI (plN Ns xs d)))) h) := by
  refine SpX_of (by decide +kernel) (Nat.le_of_ble_eq_true rfl) ?_
  show AW (some (Ns, xs)) ML_plan 1 0 0 0 [.retAddr 0, .int (nI d)] [] h _
  refine k_iload_n eL_plan_0 rfl ?_
  refine k_if_ltN 10 eL_plan_1 (by decide) (by omega) ?_
  refine k_iload_n eL_plan_4 rfl ?_
  refine k_bipush (v := nI 39) eL_plan_5 (by decide) ?_
  refine k_icmp_leN 14 eL_plan_7 (by decide) (by omega) (by omega) (fun c_7 => ?_) (fun c_7 => ?_)
  · refine k_aloadT eL_plan_14 rfl ?_
    refine k_bipush (v := nI 6) eL_plan_15 (by decide) ?_
    refine k_iload_n eL_plan_17 rfl ?_
    refine k_bipush (v := nI 15) eL_plan_18 (by decide) ?_
    refine k_idivN eL_plan_20 (by omega) (by omega) (by omega) ?_
    refine k_iaddN eL_plan_21 ?_
    refine k_callSX (M' := ML_at) (bc' := 0) (bs' := 0) (bc2 := 0) (bs2 := 0) eL_plan_22 mL_70 wL_at sL_at rfl (pL_at (k := (6 + d / 15)) hN (by omega)) (by decide) ⟨rfl, rfl⟩ (Nat.le_of_ble_eq_true rfl) ?_
    rintro r h1 ⟨rfl, e1⟩
    obtain rfl := e1.symm
    refine k_iconst (v := nI 2) eL_plan_25 (by decide) ?_
    refine k_iload_n eL_plan_26 rfl ?_
    refine k_bipush (v := nI 15) eL_plan_27 (by decide) ?_
    refine k_iremN eL_plan_29 (by omega) (by omega) (by omega) ?_
    refine k_imulN eL_plan_30 ?_
    refine k_ishr eL_plan_31 ?_
    refine k_topi ((shr (2 * (d % 15)) (scr Ns xs (6 + d / 15)))) rfl ?_
    refine k_iconst (v := nI 3) eL_plan_32 (by decide) ?_
    refine k_iand eL_plan_33 ?_
    refine k_topi (nI (lo 2 (shr (2 * (d % 15)) (scr Ns xs (6 + d / 15))))) (lo_and 2 _ (by decide)) ?_
    refine k_ireturn eL_plan_34 rfl rfl ?_
    exact ⟨by rw [plN, if_neg (by omega)], rfl⟩
  refine k_iconst (v := nI 0) eL_plan_10 (by decide) ?_
  refine k_goto 34 eL_plan_11 (by decide) ?_
  refine k_ireturn eL_plan_34 rfl rfl ?_
  exact ⟨by rw [plN, if_pos (by omega)], rfl⟩
set_option maxHeartbeats 1000000 in
theorem pL_counting {h : k_H} {Ns : Nat} {xs : Nat → Int32} (hN : Ns ≤ 260) : SpX (some (Ns, xs)) 1 0 0 ML_counting [.retAddr 0] h (Rt (some (.int (nI (coN9 Ns xs)))) h) := by
  refine SpX_of (by decide +kernel) (Nat.le_of_ble_eq_true rfl) ?_
  show AW (some (Ns, xs)) ML_counting 1 0 0 0 [.retAddr 0] [] h _
  refine k_aloadT eL_counting_0 rfl ?_
  refine k_bipush (v := nI 9) eL_counting_1 (by decide) ?_
  refine k_callSX (M' := ML_at) (bc' := 0) (bs' := 0) (bc2 := 0) (bs2 := 0) eL_counting_3 mL_70 wL_at sL_at rfl (pL_at (k := 9) hN (by omega)) (by decide) ⟨rfl, rfl⟩ (Nat.le_of_ble_eq_true rfl) ?_
  rintro r h1 ⟨rfl, e1⟩
  obtain rfl := e1.symm
  refine k_iconst (v := nI 3) eL_counting_6 (by decide) ?_
  refine k_iand eL_counting_7 ?_
  refine k_topi (nI (lo 2 (scr Ns xs 9))) (lo_and 2 _ (by decide)) ?_
  refine k_ireturn eL_counting_8 rfl rfl ?_
  exact ⟨rfl, rfl⟩
set_option maxHeartbeats 1000000 in
theorem pL_day {h : k_H} {Ns : Nat} {xs : Nat → Int32} (hN : Ns ≤ 260) {c : Nat} (hc : c < 4) : SpX (some (Ns, xs)) 1 0 0 ML_day [.retAddr 0, .int (nI c)] h (Rt (some (.int (nI (daN Ns xs c)))) h) := by
  refine SpX_of (by decide +kernel) (Nat.le_of_ble_eq_true rfl) ?_
  show AW (some (Ns, xs)) ML_day 1 0 0 0 [.retAddr 0, .int (nI c)] [] h _
  refine k_bipush (v := nI 37) eL_day_0 (by decide) ?_
  refine k_iload_n eL_day_2 rfl ?_
  refine k_imulN eL_day_3 ?_
  refine k_aloadT eL_day_4 rfl ?_
  refine k_bipush (v := nI 9) eL_day_5 (by decide) ?_
  refine k_callSX (M' := ML_at) (bc' := 0) (bs' := 0) (bc2 := 0) (bs2 := 0) eL_day_7 mL_70 wL_at sL_at rfl (pL_at (k := 9) hN (by omega)) (by decide) ⟨rfl, rfl⟩ (Nat.le_of_ble_eq_true rfl) ?_
  rintro r h1 ⟨rfl, e1⟩
  obtain rfl := e1.symm
  refine k_iconst (v := nI 2) eL_day_10 (by decide) ?_
  refine k_iconst (v := nI 5) eL_day_11 (by decide) ?_
  refine k_iload_n eL_day_12 rfl ?_
  refine k_imulN eL_day_13 ?_
  refine k_iaddN eL_day_14 ?_
  refine k_ishr eL_day_15 ?_
  refine k_topi ((shr (2 + 5 * c) (scr Ns xs 9))) rfl ?_
  refine k_bipush (v := nI 31) eL_day_16 (by decide) ?_
  refine k_iand eL_day_18 ?_
  refine k_topi (nI (lo 5 (shr (2 + 5 * c) (scr Ns xs 9)))) (lo_and 5 _ (by decide)) ?_
  refine k_iaddN eL_day_19 ?_
  refine k_ireturn eL_day_20 rfl rfl ?_
  exact ⟨rfl, rfl⟩
set_option maxHeartbeats 1000000 in
theorem pL_weight {h : k_H} {Ns : Nat} {xs : Nat → Int32} (hN : Ns ≤ 260) {c : Nat} (hc : c < 4) : SpX (some (Ns, xs)) 1 0 0 ML_weight [.retAddr 0, .int (nI c)] h (Rt (some (.int (nI (weN Ns xs c)))) h) := by
  refine SpX_of (by decide +kernel) (Nat.le_of_ble_eq_true rfl) ?_
  show AW (some (Ns, xs)) ML_weight 1 0 0 0 [.retAddr 0, .int (nI c)] [] h _
  refine k_iconst (v := nI 1) eL_weight_0 (by decide) ?_
  refine k_aloadT eL_weight_1 rfl ?_
  refine k_bipush (v := nI 9) eL_weight_2 (by decide) ?_
  refine k_callSX (M' := ML_at) (bc' := 0) (bs' := 0) (bc2 := 0) (bs2 := 0) eL_weight_4 mL_70 wL_at sL_at rfl (pL_at (k := 9) hN (by omega)) (by decide) ⟨rfl, rfl⟩ (Nat.le_of_ble_eq_true rfl) ?_
  rintro r h1 ⟨rfl, e1⟩
  obtain rfl := e1.symm
  refine k_bipush (v := nI 17) eL_weight_7 (by decide) ?_
  refine k_iconst (v := nI 3) eL_weight_9 (by decide) ?_
  refine k_iload_n eL_weight_10 rfl ?_
  refine k_imulN eL_weight_11 ?_
  refine k_iaddN eL_weight_12 ?_
  refine k_ishr eL_weight_13 ?_
  refine k_topi ((shr (17 + 3 * c) (scr Ns xs 9))) rfl ?_
  refine k_bipush (v := nI 7) eL_weight_14 (by decide) ?_
  refine k_iand eL_weight_16 ?_
  refine k_topi (nI (lo 3 (shr (17 + 3 * c) (scr Ns xs 9)))) (lo_and 3 _ (by decide)) ?_
  refine k_iaddN eL_weight_17 ?_
  refine k_ireturn eL_weight_18 rfl rfl ?_
  exact ⟨rfl, rfl⟩
set_option maxHeartbeats 1000000 in
theorem pL_lost {h : k_H} {Ns : Nat} {xs : Nat → Int32} (hN : Ns ≤ 260) : SpX (some (Ns, xs)) 1 0 0 ML_lost [.retAddr 0] h (Rt (some (.int (nI (loN Ns xs)))) h) := by
  refine SpX_of (by decide +kernel) (Nat.le_of_ble_eq_true rfl) ?_
  show AW (some (Ns, xs)) ML_lost 1 0 0 0 [.retAddr 0] [] h _
  refine k_iconst (v := nI 1) eL_lost_0 (by decide) ?_
  refine k_aloadT eL_lost_1 rfl ?_
  refine k_iconst (v := nI 0) eL_lost_2 (by decide) ?_
  refine k_callSX (M' := ML_at) (bc' := 0) (bs' := 0) (bc2 := 0) (bs2 := 0) eL_lost_3 mL_70 wL_at sL_at rfl (pL_at (k := 0) hN (by omega)) (by decide) ⟨rfl, rfl⟩ (Nat.le_of_ble_eq_true rfl) ?_
  rintro r h1 ⟨rfl, e1⟩
  obtain rfl := e1.symm
  refine k_bipush (v := nI 16) eL_lost_6 (by decide) ?_
  refine k_ishr eL_lost_8 ?_
  refine k_topi ((shr 16 (scr Ns xs 0))) rfl ?_
  refine k_bipush (v := nI 31) eL_lost_9 (by decide) ?_
  refine k_iand eL_lost_11 ?_
  refine k_topi (nI (lo 5 (shr 16 (scr Ns xs 0)))) (lo_and 5 _ (by decide)) ?_
  refine k_iaddN eL_lost_12 ?_
  refine k_ireturn eL_lost_13 rfl rfl ?_
  exact ⟨rfl, rfl⟩
theorem lL_left {h : k_H} {g : Int32} {K : Nat} (hK : K < 2 ^ 31) : ∀ n j, j + n = K → AW none ML_left 0 0 0 6 [.int g, .int (nI K), .int (lft g j), .int (nI j)] [] h (Rt (some (.int (lft g K))) h) := by
  intro n
  induction n with
  | zero =>
    intro j hj
    obtain rfl : K = j := by omega
    refine k_iload_n eL_left_6 rfl ?_
    refine k_iload_n eL_left_7 rfl ?_
    refine k_icmp_geN 29 eL_left_8 (by decide) (by omega) (by omega) (fun c_8 => ?_) (fun c_8 => by exfalso; omega)
    refine k_iload_n eL_left_29 rfl ?_
    refine k_ireturn eL_left_30 rfl rfl ?_
    exact ⟨rfl, rfl⟩
  | succ n ih =>
    intro j hj
    refine k_iload_n eL_left_6 rfl ?_
    refine k_iload_n eL_left_7 rfl ?_
    refine k_icmp_geN 29 eL_left_8 (by decide) (by omega) (by omega) (fun c_8 => by exfalso; omega) (fun c_8 => ?_)
    refine k_iload_n eL_left_11 rfl ?_
    refine k_sipush (v := nI 1000) eL_left_12 (by decide) ?_
    refine k_iload_n eL_left_15 rfl ?_
    refine k_isub eL_left_16 ?_
    refine k_imul eL_left_17 ?_
    refine k_sipush (v := nI 1000) eL_left_18 (by decide) ?_
    refine k_idiv eL_left_21 (by decide) ?_
    refine k_istore_n (L2 := [_, _, _, _]) eL_left_22 (Nat.le_of_ble_eq_true rfl) rfl ?_
    refine k_iincN (g := 1) (a := j) (L2 := [_, _, _, _]) eL_left_23 (Nat.le_of_ble_eq_true rfl) rfl rfl ?_
    refine k_goto 6 eL_left_26 (by decide) ?_
    exact ih (j + 1) (by omega)
theorem pL_left {h : k_H} (g : Int32) {K : Nat} (hK : K < 2 ^ 31) : Sp 0 0 0 ML_left [.int g, .int (nI K)] h (Rt (some (.int (lft g K))) h) := by
  refine Sp_of (by decide +kernel) (Nat.le_of_ble_eq_true rfl) ?_
  show AW none ML_left 0 0 0 0 [.int g, .int (nI K), .null, .null] [] h _
  refine k_sipush (v := nI 1000) eL_left_0 (by decide) ?_
  refine k_istore_n (L2 := [_, _, _, _]) eL_left_3 (Nat.le_of_ble_eq_true rfl) rfl ?_
  refine k_iconst (v := nI 0) eL_left_4 (by decide) ?_
  refine k_istore_n (L2 := [_, _, _, _]) eL_left_5 (Nat.le_of_ble_eq_true rfl) rfl ?_
  exact lL_left hK K 0 (by omega)
set_option maxHeartbeats 1000000 in
theorem pL_points {h : k_H} {Ns : Nat} {xs : Nat → Int32} (hN : Ns ≤ 260) {r w k : Nat} (hr : r < 2) (hw : w < 2 ^ 31) (hk : k < 2 ^ 31) : SpX (some (Ns, xs)) 2 0 0 ML_points [.retAddr 0, .int (nI r), .int (nI w), .int (nI k)] h (Rt (some (.int (ptL Ns xs r w k))) h) := by
  refine SpX_of (by decide +kernel) (Nat.le_of_ble_eq_true rfl) ?_
  show AW (some (Ns, xs)) ML_points 2 0 0 0 [.retAddr 0, .int (nI r), .int (nI w), .int (nI k)] [] h _
  refine k_aloadT eL_points_0 rfl ?_
  refine k_iload_n eL_points_1 rfl ?_
  refine k_callSX (M' := ML_strong) (bc' := 0) (bs' := 0) (bc2 := 0) (bs2 := 0) eL_points_2 mL_30 wL_strong sL_strong rfl (pL_strong (w := w) hN hw) (by decide) ⟨rfl, rfl⟩ (Nat.le_of_ble_eq_true rfl) ?_
  rintro r h1 ⟨rfl, e1⟩
  obtain rfl := e1.symm
  refine k_aloadT eL_points_5 rfl ?_
  refine k_iload_n eL_points_6 rfl ?_
  refine k_callSX (M' := ML_gift) (bc' := 0) (bs' := 0) (bc2 := 0) (bs2 := 0) eL_points_7 mL_46 wL_gift sL_gift rfl (pL_gift (r := r) hN hr) (by decide) ⟨rfl, rfl⟩ (Nat.le_of_ble_eq_true rfl) ?_
  rintro r h1 ⟨rfl, e1⟩
  obtain rfl := e1.symm
  refine k_imul eL_points_10 ?_
  refine k_sipush (v := nI 1000) eL_points_11 (by decide) ?_
  refine k_idiv eL_points_14 (by decide) ?_
  refine k_aloadT eL_points_15 rfl ?_
  refine k_iload_n eL_points_16 rfl ?_
  refine k_callSX (M' := ML_slow) (bc' := 0) (bs' := 0) (bc2 := 0) (bs2 := 0) eL_points_17 mL_43 wL_slow sL_slow rfl (pL_slow (r := r) hN hr) (by decide) ⟨rfl, rfl⟩ (Nat.le_of_ble_eq_true rfl) ?_
  rintro r h1 ⟨rfl, e1⟩
  obtain rfl := e1.symm
  refine k_iload_n eL_points_20 rfl ?_
  refine k_callS (M' := ML_left) (bc' := 0) (bs' := 0) (bc2 := 0) (bs2 := 0) eL_points_21 mL_106 wL_left sL_left rfl (pL_left (nI (slN Ns xs r)) hk) (by decide) ⟨rfl, rfl⟩ (Nat.le_of_ble_eq_true rfl) ?_
  rintro r h1 ⟨rfl, e1⟩
  obtain rfl := e1.symm
  refine k_imul eL_points_24 ?_
  refine k_aloadT eL_points_25 rfl ?_
  refine k_iload_n eL_points_26 rfl ?_
  refine k_callSX (M' := ML_tires) (bc' := 0) (bs' := 0) (bc2 := 0) (bs2 := 0) eL_points_27 mL_24 wL_tires sL_tires rfl (pL_tires (w := w) hN hw) (by decide) ⟨rfl, rfl⟩ (Nat.le_of_ble_eq_true rfl) ?_
  rintro r h1 ⟨rfl, e1⟩
  obtain rfl := e1.symm
  refine k_aloadT eL_points_30 rfl ?_
  refine k_iload_n eL_points_31 rfl ?_
  refine k_callSX (M' := ML_fast) (bc' := 0) (bs' := 0) (bc2 := 0) (bs2 := 0) eL_points_32 mL_40 wL_fast sL_fast rfl (pL_fast (r := r) hN hr) (by decide) ⟨rfl, rfl⟩ (Nat.le_of_ble_eq_true rfl) ?_
  rintro r h1 ⟨rfl, e1⟩
  obtain rfl := e1.symm
  refine k_iload_n eL_points_35 rfl ?_
  refine k_callS (M' := ML_left) (bc' := 0) (bs' := 0) (bc2 := 0) (bs2 := 0) eL_points_36 mL_106 wL_left sL_left rfl (pL_left (nI (faN Ns xs r)) hk) (by decide) ⟨rfl, rfl⟩ (Nat.le_of_ble_eq_true rfl) ?_
  rintro r h1 ⟨rfl, e1⟩
  obtain rfl := e1.symm
  refine k_imul eL_points_39 ?_
  refine k_isub eL_points_40 ?_
  refine k_ireturn eL_points_41 rfl rfl ?_
  exact ⟨rfl, rfl⟩
