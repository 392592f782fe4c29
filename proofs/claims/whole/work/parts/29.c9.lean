/-- one body that began, a list of them: the trace and how many -/
def trc1 (S : k_S) (n b : Nat) : k_S := si (sa S 6 (va_up (S.2.1 6) n (nI b))) 203 (nI (n + 1))
def trc : k_S → Nat → List Nat → k_S
  | S, _, [] => S
  | S, n, b :: r => trc (trc1 S n b) (n + 1) r
theorem trc_cons (S : k_S) (n b : Nat) (l : List Nat) : trc S n (b :: l) = trc (trc1 S n b) (n + 1) l := rfl
theorem trc_app : ∀ (l1 : List Nat) (S : k_S) (n : Nat) (l2 : List Nat), trc S n (l1 ++ l2) = trc (trc S n l1) (n + l1.length) l2
  | [], S, n, l2 => rfl
  | b :: r, S, n, l2 => by
    show trc (trc1 S n b) (n + 1) (r ++ l2) = trc (trc (trc1 S n b) (n + 1) r) (n + (r.length + 1)) l2
    rw [trc_app r, show n + 1 + r.length = n + (r.length + 1) by omega]
theorem t1K {S : k_S} {n b : Nat} {v : Int32} (h : S.1 205 = v) : (trc1 S n b).1 205 = v := h
theorem t1N {S : k_S} {n b : Nat} {v : Int32} (h : S.1 204 = v) : (trc1 S n b).1 204 = v := h
theorem tK : ∀ {l : List Nat} {S : k_S} {n : Nat} {v : Int32}, S.1 205 = v → (trc S n l).1 205 = v
  | [], _, _, _, h => h
  | _ :: r, S, n, v, h => tK (l := r) (t1K h)
theorem tN : ∀ {l : List Nat} {S : k_S} {n : Nat} {v : Int32}, S.1 204 = v → (trc S n l).1 204 = v
  | [], _, _, _, h => h
  | _ :: r, S, n, v, h => tN (l := r) (t1N h)
theorem tR : ∀ {l : List Nat} {S : k_S} {n : Nat}, S.1 203 = nI n → (trc S n l).1 203 = nI (n + l.length)
  | [], _, _, h => h
  | b :: r, S, n, h => by
    have q := tR (l := r) (S := trc1 S n b) (n := n + 1) rfl
    rw [show n + (b :: r).length = n + 1 + r.length by simp; omega]
    exact q
set_option maxHeartbeats 400000 in
theorem pX0_add {S : k_S} {n : Nat} (hn : S.1 201 = nI n) (hlt : n < 50) (k : Int32) : Sp 1 0 0 MX0_add [.ref 4, .int (k)] (hp S) (Rt (some (.int (nI n))) (hp (si (sa S 5 (va_up (S.2.1 5) n k)) 201 (nI (n + 1))))) := by
  refine Sp_of (by decide +kernel) (Nat.le_of_ble_eq_true rfl) ?_
  show AW none MX0_add 1 0 0 0 [.ref 4, .int (k)] [] (hp S) _
  refine k_aload_n eX0_add_0 rfl ?_
  refine GX0_15 eX0_add_1 rfl ?_
  refine k_topi (nI n) hn ?_
  refine k_bipush (v := nI 50) eX0_add_4 (by decide) ?_
  refine k_icmp_ltN 12 eX0_add_6 (by decide) (by omega) (by omega) (fun c_6 => ?_) (fun c_6 => by exfalso; omega)
  refine k_aload_n eX0_add_12 rfl ?_
  refine GX0_11 eX0_add_13 rfl ?_
  refine k_aload_n eX0_add_16 rfl ?_
  refine GX0_15 eX0_add_17 rfl ?_
  refine k_topi (nI n) hn ?_
  refine k_iload_n eX0_add_20 rfl ?_
  refine cN0 (M' := MX11_write) eX0_add_21 mX0_25 wX11_write sX11_write rfl (pX11_writeN (j := n) (v := k) (ar5 _) (by omega) (by decide) (as5 _ _)) (by decide) (Nat.le_of_ble_eq_true rfl) ?_
  refine k_aload_n eX0_add_24 rfl ?_
  refine k_dup eX0_add_25 rfl ?_
  refine GX0_15 eX0_add_26 rfl ?_
  refine k_topi (nI n) hn ?_
  refine k_iconst (v := nI 1) eX0_add_29 (by decide) ?_
  refine k_iaddN eX0_add_30 ?_
  refine PX0_15 eX0_add_31 rfl ?_
  refine k_aload_n eX0_add_34 rfl ?_
  refine GX0_15 eX0_add_35 rfl ?_
  refine k_topi (nI (n + 1)) rfl ?_
  refine k_iconst (v := nI 1) eX0_add_38 (by decide) ?_
  refine k_isubN eX0_add_39 (by omega) ?_
  refine k_ireturn eX0_add_40 rfl rfl ?_
  exact ⟨rfl, rfl⟩
set_option maxHeartbeats 400000 in
theorem pX0_addF {S : k_S} (hn : S.1 201 = nI 50) (k : Int32) : Sp 0 0 0 MX0_add [.ref 4, .int (k)] (hp S) (Rt (some (.int (-3))) (hp S)) := by
  refine Sp_of (by decide +kernel) (Nat.le_of_ble_eq_true rfl) ?_
  show AW none MX0_add 0 0 0 0 [.ref 4, .int (k)] [] (hp S) _
  refine k_aload_n eX0_add_0 rfl ?_
  refine GX0_15 eX0_add_1 rfl ?_
  refine k_topi (nI 50) hn ?_
  refine k_bipush (v := nI 50) eX0_add_4 (by decide) ?_
  refine k_icmp_ltN 12 eX0_add_6 (by decide) (by omega) (by omega) (fun c_6 => by exfalso; omega) (fun c_6 => ?_)
  refine k_bipush (v := (-3)) eX0_add_9 (by decide) ?_
  refine k_ireturn eX0_add_11 rfl rfl ?_
  exact ⟨rfl, rfl⟩
set_option maxHeartbeats 400000 in
theorem pX0_has {S : k_S} (v : Int32) : Sp 0 0 0 MX0_has [.ref 4, .int (v)] (hp S) (Rt (some (.int (b2i (pW (S.1 201) v)))) (hp S)) := by
  refine Sp_of (by decide +kernel) (Nat.le_of_ble_eq_true rfl) ?_
  show AW none MX0_has 0 0 0 0 [.ref 4, .int (v)] [] (hp S) _
  refine k_iload_n eX0_has_0 rfl ?_
  refine k_if_lt 16 eX0_has_1 (by decide) (fun c_1 => ?_) (fun c_1 => ?_)
  · refine k_iconst (v := nI 0) eX0_has_16 (by decide) ?_
    refine k_ireturn eX0_has_17 rfl rfl ?_
    exact ⟨rt_f (fun q => by first | exact absurd q.1 (Int32.not_le.mpr (by assumption)) | exact absurd q.2 (Int32.not_lt.mpr (by assumption))), rfl⟩
  refine k_iload_n eX0_has_4 rfl ?_
  refine k_aload_n eX0_has_5 rfl ?_
  refine GX0_15 eX0_has_6 rfl ?_
  refine k_icmp_ge 16 eX0_has_9 (by decide) (fun c_9 => ?_) (fun c_9 => ?_)
  · refine k_iconst (v := nI 0) eX0_has_16 (by decide) ?_
    refine k_ireturn eX0_has_17 rfl rfl ?_
    exact ⟨rt_f (fun q => by first | exact absurd q.1 (Int32.not_le.mpr (by assumption)) | exact absurd q.2 (Int32.not_lt.mpr (by assumption))), rfl⟩
  refine k_iconst (v := nI 1) eX0_has_12 (by decide) ?_
  refine k_goto 17 eX0_has_13 (by decide) ?_
  refine k_ireturn eX0_has_17 rfl rfl ?_
  exact ⟨rt_t ⟨Int32.not_lt.mp c_1, Int32.not_le.mp c_9⟩, rfl⟩
set_option maxHeartbeats 400000 in
theorem pX0_kindOf {S : k_S} {j : Nat} (hj : j < 50) : Sp 1 0 0 MX0_kindOf [.ref 4, .int (nI j)] (hp S) (Rt (some (.int (S.2.1 5 j))) (hp S)) := by
  refine Sp_of (by decide +kernel) (Nat.le_of_ble_eq_true rfl) ?_
  show AW none MX0_kindOf 1 0 0 0 [.ref 4, .int (nI j)] [] (hp S) _
  refine k_aload_n eX0_kindOf_0 rfl ?_
  refine GX0_11 eX0_kindOf_1 rfl ?_
  refine k_iload_n eX0_kindOf_4 rfl ?_
  refine cN1 (M' := MX11_read) eX0_kindOf_5 mX0_29 wX11_read sX11_read rfl (pX11_readN (j := j) (ar5 _) (by omega) (by decide)) (by decide) (Nat.le_of_ble_eq_true rfl) ?_
  refine k_ireturn eX0_kindOf_8 rfl rfl ?_
  exact ⟨rfl, rfl⟩
def abv (k : Nat) : Int32 := k_lA.getD k 0
def bod (p : Nat) : Int32 := k_lB.getD p 0
set_option maxHeartbeats 400000 in
theorem pX0_above {S : k_S} {k : Nat} (hk : k < 9) : Sp 0 0 0 MX0_above [.int (nI k)] (hp S) (Rt (some (.int (abv k))) (hp S)) := by
  refine Sp_of (by decide +kernel) (Nat.le_of_ble_eq_true rfl) ?_
  show AW none MX0_above 0 0 0 0 [.int (nI k)] [] (hp S) _
  refine k_iload_n eX0_above_0 rfl ?_
  refine k_if_ltN 20 eX0_above_1 (by decide) (by omega) ?_
  refine k_iload_n eX0_above_4 rfl ?_
  refine k_gets (t := 1) eX0_above_5 (by decide) fX0_58 ?_
  refine k_alenT eX0_above_8 trivial ?_
  refine k_topi (nI 9) rfl ?_
  refine k_icmp_geN 20 eX0_above_9 (by decide) (by omega) (by omega) (fun c_9 => by exfalso; omega) (fun c_9 => ?_)
  refine k_gets (t := 1) eX0_above_12 (by decide) fX0_58 ?_
  refine k_iload_n eX0_above_15 rfl ?_
  refine k_ialdT eX0_above_16 trivial (vp_in_nI (show k < 9 by omega) (by decide)) ?_
  refine k_topi ((k_tb none 1).2 k) (by rw [nI_clamp (by omega)]) ?_
  refine k_goto 21 eX0_above_17 (by decide) ?_
  refine k_ireturn eX0_above_21 rfl rfl ?_
  exact ⟨rfl, rfl⟩
set_option maxHeartbeats 400000 in
theorem pX0_aboveM {S : k_S} : Sp 0 0 0 MX0_above [.int ((-1))] (hp S) (Rt (some (.int (-1))) (hp S)) := by
  refine Sp_of (by decide +kernel) (Nat.le_of_ble_eq_true rfl) ?_
  show AW none MX0_above 0 0 0 0 [.int ((-1))] [] (hp S) _
  refine k_iload_n eX0_above_0 rfl ?_
  refine k_if_lt 20 eX0_above_1 (by decide) (fun c_1 => ?_) (fun c_1 => by exfalso; revert c_1; decide)
  refine k_iconst (v := (-1)) eX0_above_20 (by decide) ?_
  refine k_ireturn eX0_above_21 rfl rfl ?_
  exact ⟨rfl, rfl⟩
set_option maxHeartbeats 400000 in
theorem pX0_bodyOf {S : k_S} {k s : Nat} (hk : k < 9) (hs : s < 4) : Sp 0 0 0 MX0_bodyOf [.int (nI k), .int (nI s)] (hp S) (Rt (some (.int (bod (k * 4 + s)))) (hp S)) := by
  refine Sp_of (by decide +kernel) (Nat.le_of_ble_eq_true rfl) ?_
  show AW none MX0_bodyOf 0 0 0 0 [.int (nI k), .int (nI s), .null] [] (hp S) _
  refine k_iload_n eX0_bodyOf_0 rfl ?_
  refine k_iconst (v := nI 4) eX0_bodyOf_1 (by decide) ?_
  refine k_imulN eX0_bodyOf_2 ?_
  refine k_iload_n eX0_bodyOf_3 rfl ?_
  refine k_iaddN eX0_bodyOf_4 ?_
  refine k_istore_n (L2 := [_, _, _]) eX0_bodyOf_5 (Nat.le_of_ble_eq_true rfl) rfl ?_
  refine k_iload_n eX0_bodyOf_6 rfl ?_
  refine k_if_ltN 26 eX0_bodyOf_7 (by decide) (by omega) ?_
  refine k_iload_n eX0_bodyOf_10 rfl ?_
  refine k_gets (t := 2) eX0_bodyOf_11 (by decide) fX0_61 ?_
  refine k_alenT eX0_bodyOf_14 trivial ?_
  refine k_topi (nI 36) rfl ?_
  refine k_icmp_geN 26 eX0_bodyOf_15 (by decide) (by omega) (by omega) (fun c_15 => by exfalso; omega) (fun c_15 => ?_)
  refine k_gets (t := 2) eX0_bodyOf_18 (by decide) fX0_61 ?_
  refine k_iload_n eX0_bodyOf_21 rfl ?_
  refine k_ialdT eX0_bodyOf_22 trivial (vp_in_nI (show ((k * 4) + s) < 36 by omega) (by decide)) ?_
  refine k_topi ((k_tb none 2).2 ((k * 4) + s)) (by rw [nI_clamp (by omega)]) ?_
  refine k_goto 27 eX0_bodyOf_23 (by decide) ?_
  refine k_ireturn eX0_bodyOf_27 rfl rfl ?_
  exact ⟨rfl, rfl⟩
set_option maxHeartbeats 400000 in
theorem pX0_isUnder0 {S : k_S} {w : Nat} (hw : w < 8) : Sp 1 0 0 MX0_isUnder [.ref 4, .int (nI 0), .int (nI w)] (hp S) (Rt (some (.int (b2i (w = 0 ∨ w = 8)))) (hp S)) := by
  refine Sp_of (by decide +kernel) (Nat.le_of_ble_eq_true rfl) ?_
  show AW none MX0_isUnder 1 0 0 0 [.ref 4, .int (nI 0), .int (nI w), .null, .null] [] (hp S) _
  refine k_iload_n eX0_isUnder_0 rfl ?_
  refine k_istore_n (L2 := [_, _, _, _, _]) eX0_isUnder_1 (Nat.le_of_ble_eq_true rfl) rfl ?_
  refine k_iconst (v := nI 0) eX0_isUnder_2 (by decide) ?_
  refine k_istore (L2 := [_, _, _, _, _]) eX0_isUnder_3 (Nat.le_of_ble_eq_true rfl) rfl ?_
  refine k_iload eX0_isUnder_5 rfl ?_
  refine k_bipush (v := nI 8) eX0_isUnder_7 (by decide) ?_
  refine k_icmp_geN 34 eX0_isUnder_9 (by decide) (by omega) (by omega) (fun c_9 => by exfalso; omega) (fun c_9 => ?_)
  refine k_iload_n eX0_isUnder_12 rfl ?_
  refine k_if_ltN 34 eX0_isUnder_13 (by decide) (by omega) ?_
  refine k_iload_n eX0_isUnder_16 rfl ?_
  refine k_iload_n eX0_isUnder_17 rfl ?_
  refine k_icmp_neN 23 eX0_isUnder_18 (by decide) (by omega) (by omega) (fun c_18 => ?_) (fun c_18 => ?_)
  · refine k_iload_n eX0_isUnder_23 rfl ?_
    refine cS1 (M' := MX0_above) eX0_isUnder_24 mX0_33 wX0_above sX0_above rfl (pX0_above (S := S) (k := 0) (by decide)) (by decide) (Nat.le_of_ble_eq_true rfl) ?_
    refine k_topi (nI 8) (by decide) ?_
    refine k_istore_n (L2 := [_, _, _, _, _]) eX0_isUnder_27 (Nat.le_of_ble_eq_true rfl) rfl ?_
    refine k_iincN (g := 1) (a := 0) (L2 := [_, _, _, _, _]) eX0_isUnder_28 (Nat.le_of_ble_eq_true rfl) rfl rfl ?_
    refine k_goto 5 eX0_isUnder_31 (by decide) ?_
    refine k_iload eX0_isUnder_5 rfl ?_
    refine k_bipush (v := nI 8) eX0_isUnder_7 (by decide) ?_
    refine k_icmp_geN 34 eX0_isUnder_9 (by decide) (by omega) (by omega) (fun c_9 => by exfalso; omega) (fun c_9 => ?_)
    refine k_iload_n eX0_isUnder_12 rfl ?_
    refine k_if_ltN 34 eX0_isUnder_13 (by decide) (by omega) ?_
    refine k_iload_n eX0_isUnder_16 rfl ?_
    refine k_iload_n eX0_isUnder_17 rfl ?_
    refine k_icmp_neN 23 eX0_isUnder_18 (by decide) (by omega) (by omega) (fun c_18 => ?_) (fun c_18 => ?_)
    · refine k_iload_n eX0_isUnder_23 rfl ?_
      refine cS1 (M' := MX0_above) eX0_isUnder_24 mX0_33 wX0_above sX0_above rfl (pX0_above (S := S) (k := 8) (by decide)) (by decide) (Nat.le_of_ble_eq_true rfl) ?_
      refine k_topi ((-1)) (by decide) ?_
      refine k_istore_n (L2 := [_, _, _, _, _]) eX0_isUnder_27 (Nat.le_of_ble_eq_true rfl) rfl ?_
      refine k_iincN (g := 1) (a := 1) (L2 := [_, _, _, _, _]) eX0_isUnder_28 (Nat.le_of_ble_eq_true rfl) rfl rfl ?_
      refine k_goto 5 eX0_isUnder_31 (by decide) ?_
      refine k_iload eX0_isUnder_5 rfl ?_
      refine k_bipush (v := nI 8) eX0_isUnder_7 (by decide) ?_
      refine k_icmp_geN 34 eX0_isUnder_9 (by decide) (by omega) (by omega) (fun c_9 => by exfalso; omega) (fun c_9 => ?_)
      refine k_iload_n eX0_isUnder_12 rfl ?_
      refine k_if_lt 34 eX0_isUnder_13 (by decide) (fun c_13 => ?_) (fun c_13 => by exfalso; revert c_13; decide)
      refine k_iconst (v := nI 0) eX0_isUnder_34 (by decide) ?_
      refine k_ireturn eX0_isUnder_35 rfl rfl ?_
      exact ⟨rt_f (by omega), rfl⟩
    refine k_iconst (v := nI 1) eX0_isUnder_21 (by decide) ?_
    refine k_ireturn eX0_isUnder_22 rfl rfl ?_
    exact ⟨rt_t (by omega), rfl⟩
  refine k_iconst (v := nI 1) eX0_isUnder_21 (by decide) ?_
  refine k_ireturn eX0_isUnder_22 rfl rfl ?_
  exact ⟨rt_t (by omega), rfl⟩
set_option maxHeartbeats 400000 in
theorem pX0_isUnder1 {S : k_S} {w : Nat} (hw : w < 8) : Sp 1 0 0 MX0_isUnder [.ref 4, .int (nI 1), .int (nI w)] (hp S) (Rt (some (.int (b2i (w = 1 ∨ w = 0 ∨ w = 8)))) (hp S)) := by
  refine Sp_of (by decide +kernel) (Nat.le_of_ble_eq_true rfl) ?_
  show AW none MX0_isUnder 1 0 0 0 [.ref 4, .int (nI 1), .int (nI w), .null, .null] [] (hp S) _
  refine k_iload_n eX0_isUnder_0 rfl ?_
  refine k_istore_n (L2 := [_, _, _, _, _]) eX0_isUnder_1 (Nat.le_of_ble_eq_true rfl) rfl ?_
  refine k_iconst (v := nI 0) eX0_isUnder_2 (by decide) ?_
  refine k_istore (L2 := [_, _, _, _, _]) eX0_isUnder_3 (Nat.le_of_ble_eq_true rfl) rfl ?_
  refine k_iload eX0_isUnder_5 rfl ?_
  refine k_bipush (v := nI 8) eX0_isUnder_7 (by decide) ?_
  refine k_icmp_geN 34 eX0_isUnder_9 (by decide) (by omega) (by omega) (fun c_9 => by exfalso; omega) (fun c_9 => ?_)
  refine k_iload_n eX0_isUnder_12 rfl ?_
  refine k_if_ltN 34 eX0_isUnder_13 (by decide) (by omega) ?_
  refine k_iload_n eX0_isUnder_16 rfl ?_
  refine k_iload_n eX0_isUnder_17 rfl ?_
  refine k_icmp_neN 23 eX0_isUnder_18 (by decide) (by omega) (by omega) (fun c_18 => ?_) (fun c_18 => ?_)
  · refine k_iload_n eX0_isUnder_23 rfl ?_
    refine cS1 (M' := MX0_above) eX0_isUnder_24 mX0_33 wX0_above sX0_above rfl (pX0_above (S := S) (k := 1) (by decide)) (by decide) (Nat.le_of_ble_eq_true rfl) ?_
    refine k_topi (nI 0) (by decide) ?_
    refine k_istore_n (L2 := [_, _, _, _, _]) eX0_isUnder_27 (Nat.le_of_ble_eq_true rfl) rfl ?_
    refine k_iincN (g := 1) (a := 0) (L2 := [_, _, _, _, _]) eX0_isUnder_28 (Nat.le_of_ble_eq_true rfl) rfl rfl ?_
    refine k_goto 5 eX0_isUnder_31 (by decide) ?_
    refine k_iload eX0_isUnder_5 rfl ?_
    refine k_bipush (v := nI 8) eX0_isUnder_7 (by decide) ?_
    refine k_icmp_geN 34 eX0_isUnder_9 (by decide) (by omega) (by omega) (fun c_9 => by exfalso; omega) (fun c_9 => ?_)
    refine k_iload_n eX0_isUnder_12 rfl ?_
    refine k_if_ltN 34 eX0_isUnder_13 (by decide) (by omega) ?_
    refine k_iload_n eX0_isUnder_16 rfl ?_
    refine k_iload_n eX0_isUnder_17 rfl ?_
    refine k_icmp_neN 23 eX0_isUnder_18 (by decide) (by omega) (by omega) (fun c_18 => ?_) (fun c_18 => ?_)
    · refine k_iload_n eX0_isUnder_23 rfl ?_
      refine cS1 (M' := MX0_above) eX0_isUnder_24 mX0_33 wX0_above sX0_above rfl (pX0_above (S := S) (k := 0) (by decide)) (by decide) (Nat.le_of_ble_eq_true rfl) ?_
      refine k_topi (nI 8) (by decide) ?_
      refine k_istore_n (L2 := [_, _, _, _, _]) eX0_isUnder_27 (Nat.le_of_ble_eq_true rfl) rfl ?_
      refine k_iincN (g := 1) (a := 1) (L2 := [_, _, _, _, _]) eX0_isUnder_28 (Nat.le_of_ble_eq_true rfl) rfl rfl ?_
      refine k_goto 5 eX0_isUnder_31 (by decide) ?_
      refine k_iload eX0_isUnder_5 rfl ?_
      refine k_bipush (v := nI 8) eX0_isUnder_7 (by decide) ?_
      refine k_icmp_geN 34 eX0_isUnder_9 (by decide) (by omega) (by omega) (fun c_9 => by exfalso; omega) (fun c_9 => ?_)
      refine k_iload_n eX0_isUnder_12 rfl ?_
      refine k_if_ltN 34 eX0_isUnder_13 (by decide) (by omega) ?_
      refine k_iload_n eX0_isUnder_16 rfl ?_
      refine k_iload_n eX0_isUnder_17 rfl ?_
      refine k_icmp_neN 23 eX0_isUnder_18 (by decide) (by omega) (by omega) (fun c_18 => ?_) (fun c_18 => ?_)
      · refine k_iload_n eX0_isUnder_23 rfl ?_
        refine cS1 (M' := MX0_above) eX0_isUnder_24 mX0_33 wX0_above sX0_above rfl (pX0_above (S := S) (k := 8) (by decide)) (by decide) (Nat.le_of_ble_eq_true rfl) ?_
        refine k_topi ((-1)) (by decide) ?_
        refine k_istore_n (L2 := [_, _, _, _, _]) eX0_isUnder_27 (Nat.le_of_ble_eq_true rfl) rfl ?_
        refine k_iincN (g := 1) (a := 2) (L2 := [_, _, _, _, _]) eX0_isUnder_28 (Nat.le_of_ble_eq_true rfl) rfl rfl ?_
        refine k_goto 5 eX0_isUnder_31 (by decide) ?_
        refine k_iload eX0_isUnder_5 rfl ?_
        refine k_bipush (v := nI 8) eX0_isUnder_7 (by decide) ?_
        refine k_icmp_geN 34 eX0_isUnder_9 (by decide) (by omega) (by omega) (fun c_9 => by exfalso; omega) (fun c_9 => ?_)
        refine k_iload_n eX0_isUnder_12 rfl ?_
        refine k_if_lt 34 eX0_isUnder_13 (by decide) (fun c_13 => ?_) (fun c_13 => by exfalso; revert c_13; decide)
        refine k_iconst (v := nI 0) eX0_isUnder_34 (by decide) ?_
        refine k_ireturn eX0_isUnder_35 rfl rfl ?_
        exact ⟨rt_f (by omega), rfl⟩
      refine k_iconst (v := nI 1) eX0_isUnder_21 (by decide) ?_
      refine k_ireturn eX0_isUnder_22 rfl rfl ?_
      exact ⟨rt_t (by omega), rfl⟩
    refine k_iconst (v := nI 1) eX0_isUnder_21 (by decide) ?_
    refine k_ireturn eX0_isUnder_22 rfl rfl ?_
    exact ⟨rt_t (by omega), rfl⟩
  refine k_iconst (v := nI 1) eX0_isUnder_21 (by decide) ?_
  refine k_ireturn eX0_isUnder_22 rfl rfl ?_
  exact ⟨rt_t (by omega), rfl⟩
set_option maxHeartbeats 400000 in
theorem pX0_isUnder2 {S : k_S} {w : Nat} (hw : w < 8) : Sp 1 0 0 MX0_isUnder [.ref 4, .int (nI 2), .int (nI w)] (hp S) (Rt (some (.int (b2i (w = 2 ∨ w = 0 ∨ w = 8)))) (hp S)) := by
  refine Sp_of (by decide +kernel) (Nat.le_of_ble_eq_true rfl) ?_
  show AW none MX0_isUnder 1 0 0 0 [.ref 4, .int (nI 2), .int (nI w), .null, .null] [] (hp S) _
  refine k_iload_n eX0_isUnder_0 rfl ?_
  refine k_istore_n (L2 := [_, _, _, _, _]) eX0_isUnder_1 (Nat.le_of_ble_eq_true rfl) rfl ?_
  refine k_iconst (v := nI 0) eX0_isUnder_2 (by decide) ?_
  refine k_istore (L2 := [_, _, _, _, _]) eX0_isUnder_3 (Nat.le_of_ble_eq_true rfl) rfl ?_
  refine k_iload eX0_isUnder_5 rfl ?_
  refine k_bipush (v := nI 8) eX0_isUnder_7 (by decide) ?_
  refine k_icmp_geN 34 eX0_isUnder_9 (by decide) (by omega) (by omega) (fun c_9 => by exfalso; omega) (fun c_9 => ?_)
  refine k_iload_n eX0_isUnder_12 rfl ?_
  refine k_if_ltN 34 eX0_isUnder_13 (by decide) (by omega) ?_
  refine k_iload_n eX0_isUnder_16 rfl ?_
  refine k_iload_n eX0_isUnder_17 rfl ?_
  refine k_icmp_neN 23 eX0_isUnder_18 (by decide) (by omega) (by omega) (fun c_18 => ?_) (fun c_18 => ?_)
  · refine k_iload_n eX0_isUnder_23 rfl ?_
    refine cS1 (M' := MX0_above) eX0_isUnder_24 mX0_33 wX0_above sX0_above rfl (pX0_above (S := S) (k := 2) (by decide)) (by decide) (Nat.le_of_ble_eq_true rfl) ?_
    refine k_topi (nI 0) (by decide) ?_
    refine k_istore_n (L2 := [_, _, _, _, _]) eX0_isUnder_27 (Nat.le_of_ble_eq_true rfl) rfl ?_
    refine k_iincN (g := 1) (a := 0) (L2 := [_, _, _, _, _]) eX0_isUnder_28 (Nat.le_of_ble_eq_true rfl) rfl rfl ?_
    refine k_goto 5 eX0_isUnder_31 (by decide) ?_
    refine k_iload eX0_isUnder_5 rfl ?_
    refine k_bipush (v := nI 8) eX0_isUnder_7 (by decide) ?_
    refine k_icmp_geN 34 eX0_isUnder_9 (by decide) (by omega) (by omega) (fun c_9 => by exfalso; omega) (fun c_9 => ?_)
    refine k_iload_n eX0_isUnder_12 rfl ?_
    refine k_if_ltN 34 eX0_isUnder_13 (by decide) (by omega) ?_
    refine k_iload_n eX0_isUnder_16 rfl ?_
    refine k_iload_n eX0_isUnder_17 rfl ?_
    refine k_icmp_neN 23 eX0_isUnder_18 (by decide) (by omega) (by omega) (fun c_18 => ?_) (fun c_18 => ?_)
    · refine k_iload_n eX0_isUnder_23 rfl ?_
      refine cS1 (M' := MX0_above) eX0_isUnder_24 mX0_33 wX0_above sX0_above rfl (pX0_above (S := S) (k := 0) (by decide)) (by decide) (Nat.le_of_ble_eq_true rfl) ?_
      refine k_topi (nI 8) (by decide) ?_
      refine k_istore_n (L2 := [_, _, _, _, _]) eX0_isUnder_27 (Nat.le_of_ble_eq_true rfl) rfl ?_
      refine k_iincN (g := 1) (a := 1) (L2 := [_, _, _, _, _]) eX0_isUnder_28 (Nat.le_of_ble_eq_true rfl) rfl rfl ?_
      refine k_goto 5 eX0_isUnder_31 (by decide) ?_
      refine k_iload eX0_isUnder_5 rfl ?_
      refine k_bipush (v := nI 8) eX0_isUnder_7 (by decide) ?_
      refine k_icmp_geN 34 eX0_isUnder_9 (by decide) (by omega) (by omega) (fun c_9 => by exfalso; omega) (fun c_9 => ?_)
      refine k_iload_n eX0_isUnder_12 rfl ?_
      refine k_if_ltN 34 eX0_isUnder_13 (by decide) (by omega) ?_
      refine k_iload_n eX0_isUnder_16 rfl ?_
      refine k_iload_n eX0_isUnder_17 rfl ?_
      refine k_icmp_neN 23 eX0_isUnder_18 (by decide) (by omega) (by omega) (fun c_18 => ?_) (fun c_18 => ?_)
      · refine k_iload_n eX0_isUnder_23 rfl ?_
        refine cS1 (M' := MX0_above) eX0_isUnder_24 mX0_33 wX0_above sX0_above rfl (pX0_above (S := S) (k := 8) (by decide)) (by decide) (Nat.le_of_ble_eq_true rfl) ?_
        refine k_topi ((-1)) (by decide) ?_
        refine k_istore_n (L2 := [_, _, _, _, _]) eX0_isUnder_27 (Nat.le_of_ble_eq_true rfl) rfl ?_
        refine k_iincN (g := 1) (a := 2) (L2 := [_, _, _, _, _]) eX0_isUnder_28 (Nat.le_of_ble_eq_true rfl) rfl rfl ?_
        refine k_goto 5 eX0_isUnder_31 (by decide) ?_
        refine k_iload eX0_isUnder_5 rfl ?_
        refine k_bipush (v := nI 8) eX0_isUnder_7 (by decide) ?_
        refine k_icmp_geN 34 eX0_isUnder_9 (by decide) (by omega) (by omega) (fun c_9 => by exfalso; omega) (fun c_9 => ?_)
        refine k_iload_n eX0_isUnder_12 rfl ?_
        refine k_if_lt 34 eX0_isUnder_13 (by decide) (fun c_13 => ?_) (fun c_13 => by exfalso; revert c_13; decide)
        refine k_iconst (v := nI 0) eX0_isUnder_34 (by decide) ?_
        refine k_ireturn eX0_isUnder_35 rfl rfl ?_
        exact ⟨rt_f (by omega), rfl⟩
      refine k_iconst (v := nI 1) eX0_isUnder_21 (by decide) ?_
      refine k_ireturn eX0_isUnder_22 rfl rfl ?_
      exact ⟨rt_t (by omega), rfl⟩
    refine k_iconst (v := nI 1) eX0_isUnder_21 (by decide) ?_
    refine k_ireturn eX0_isUnder_22 rfl rfl ?_
    exact ⟨rt_t (by omega), rfl⟩
  refine k_iconst (v := nI 1) eX0_isUnder_21 (by decide) ?_
  refine k_ireturn eX0_isUnder_22 rfl rfl ?_
  exact ⟨rt_t (by omega), rfl⟩
set_option maxHeartbeats 400000 in
theorem pX0_isUnder3 {S : k_S} {w : Nat} (hw : w < 8) : Sp 1 0 0 MX0_isUnder [.ref 4, .int (nI 3), .int (nI w)] (hp S) (Rt (some (.int (b2i (w = 3 ∨ w = 2 ∨ w = 0 ∨ w = 8)))) (hp S)) := by
  refine Sp_of (by decide +kernel) (Nat.le_of_ble_eq_true rfl) ?_
  show AW none MX0_isUnder 1 0 0 0 [.ref 4, .int (nI 3), .int (nI w), .null, .null] [] (hp S) _
  refine k_iload_n eX0_isUnder_0 rfl ?_
  refine k_istore_n (L2 := [_, _, _, _, _]) eX0_isUnder_1 (Nat.le_of_ble_eq_true rfl) rfl ?_
  refine k_iconst (v := nI 0) eX0_isUnder_2 (by decide) ?_
  refine k_istore (L2 := [_, _, _, _, _]) eX0_isUnder_3 (Nat.le_of_ble_eq_true rfl) rfl ?_
  refine k_iload eX0_isUnder_5 rfl ?_
  refine k_bipush (v := nI 8) eX0_isUnder_7 (by decide) ?_
  refine k_icmp_geN 34 eX0_isUnder_9 (by decide) (by omega) (by omega) (fun c_9 => by exfalso; omega) (fun c_9 => ?_)
  refine k_iload_n eX0_isUnder_12 rfl ?_
  refine k_if_ltN 34 eX0_isUnder_13 (by decide) (by omega) ?_
  refine k_iload_n eX0_isUnder_16 rfl ?_
  refine k_iload_n eX0_isUnder_17 rfl ?_
  refine k_icmp_neN 23 eX0_isUnder_18 (by decide) (by omega) (by omega) (fun c_18 => ?_) (fun c_18 => ?_)
  · refine k_iload_n eX0_isUnder_23 rfl ?_
    refine cS1 (M' := MX0_above) eX0_isUnder_24 mX0_33 wX0_above sX0_above rfl (pX0_above (S := S) (k := 3) (by decide)) (by decide) (Nat.le_of_ble_eq_true rfl) ?_
    refine k_topi (nI 2) (by decide) ?_
    refine k_istore_n (L2 := [_, _, _, _, _]) eX0_isUnder_27 (Nat.le_of_ble_eq_true rfl) rfl ?_
    refine k_iincN (g := 1) (a := 0) (L2 := [_, _, _, _, _]) eX0_isUnder_28 (Nat.le_of_ble_eq_true rfl) rfl rfl ?_
    refine k_goto 5 eX0_isUnder_31 (by decide) ?_
    refine k_iload eX0_isUnder_5 rfl ?_
    refine k_bipush (v := nI 8) eX0_isUnder_7 (by decide) ?_
    refine k_icmp_geN 34 eX0_isUnder_9 (by decide) (by omega) (by omega) (fun c_9 => by exfalso; omega) (fun c_9 => ?_)
    refine k_iload_n eX0_isUnder_12 rfl ?_
    refine k_if_ltN 34 eX0_isUnder_13 (by decide) (by omega) ?_
    refine k_iload_n eX0_isUnder_16 rfl ?_
    refine k_iload_n eX0_isUnder_17 rfl ?_
    refine k_icmp_neN 23 eX0_isUnder_18 (by decide) (by omega) (by omega) (fun c_18 => ?_) (fun c_18 => ?_)
    · refine k_iload_n eX0_isUnder_23 rfl ?_
      refine cS1 (M' := MX0_above) eX0_isUnder_24 mX0_33 wX0_above sX0_above rfl (pX0_above (S := S) (k := 2) (by decide)) (by decide) (Nat.le_of_ble_eq_true rfl) ?_
      refine k_topi (nI 0) (by decide) ?_
      refine k_istore_n (L2 := [_, _, _, _, _]) eX0_isUnder_27 (Nat.le_of_ble_eq_true rfl) rfl ?_
      refine k_iincN (g := 1) (a := 1) (L2 := [_, _, _, _, _]) eX0_isUnder_28 (Nat.le_of_ble_eq_true rfl) rfl rfl ?_
      refine k_goto 5 eX0_isUnder_31 (by decide) ?_
      refine k_iload eX0_isUnder_5 rfl ?_
      refine k_bipush (v := nI 8) eX0_isUnder_7 (by decide) ?_
      refine k_icmp_geN 34 eX0_isUnder_9 (by decide) (by omega) (by omega) (fun c_9 => by exfalso; omega) (fun c_9 => ?_)
      refine k_iload_n eX0_isUnder_12 rfl ?_
      refine k_if_ltN 34 eX0_isUnder_13 (by decide) (by omega) ?_
      refine k_iload_n eX0_isUnder_16 rfl ?_
      refine k_iload_n eX0_isUnder_17 rfl ?_
      refine k_icmp_neN 23 eX0_isUnder_18 (by decide) (by omega) (by omega) (fun c_18 => ?_) (fun c_18 => ?_)
      · refine k_iload_n eX0_isUnder_23 rfl ?_
        refine cS1 (M' := MX0_above) eX0_isUnder_24 mX0_33 wX0_above sX0_above rfl (pX0_above (S := S) (k := 0) (by decide)) (by decide) (Nat.le_of_ble_eq_true rfl) ?_
        refine k_topi (nI 8) (by decide) ?_
        refine k_istore_n (L2 := [_, _, _, _, _]) eX0_isUnder_27 (Nat.le_of_ble_eq_true rfl) rfl ?_
        refine k_iincN (g := 1) (a := 2) (L2 := [_, _, _, _, _]) eX0_isUnder_28 (Nat.le_of_ble_eq_true rfl) rfl rfl ?_
        refine k_goto 5 eX0_isUnder_31 (by decide) ?_
        refine k_iload eX0_isUnder_5 rfl ?_
        refine k_bipush (v := nI 8) eX0_isUnder_7 (by decide) ?_
        refine k_icmp_geN 34 eX0_isUnder_9 (by decide) (by omega) (by omega) (fun c_9 => by exfalso; omega) (fun c_9 => ?_)
        refine k_iload_n eX0_isUnder_12 rfl ?_
        refine k_if_ltN 34 eX0_isUnder_13 (by decide) (by omega) ?_
        refine k_iload_n eX0_isUnder_16 rfl ?_
        refine k_iload_n eX0_isUnder_17 rfl ?_
        refine k_icmp_neN 23 eX0_isUnder_18 (by decide) (by omega) (by omega) (fun c_18 => ?_) (fun c_18 => ?_)
        · refine k_iload_n eX0_isUnder_23 rfl ?_
          refine cS1 (M' := MX0_above) eX0_isUnder_24 mX0_33 wX0_above sX0_above rfl (pX0_above (S := S) (k := 8) (by decide)) (by decide) (Nat.le_of_ble_eq_true rfl) ?_
          refine k_topi ((-1)) (by decide) ?_
          refine k_istore_n (L2 := [_, _, _, _, _]) eX0_isUnder_27 (Nat.le_of_ble_eq_true rfl) rfl ?_
          refine k_iincN (g := 1) (a := 3) (L2 := [_, _, _, _, _]) eX0_isUnder_28 (Nat.le_of_ble_eq_true rfl) rfl rfl ?_
          refine k_goto 5 eX0_isUnder_31 (by decide) ?_
          refine k_iload eX0_isUnder_5 rfl ?_
          refine k_bipush (v := nI 8) eX0_isUnder_7 (by decide) ?_
          refine k_icmp_geN 34 eX0_isUnder_9 (by decide) (by omega) (by omega) (fun c_9 => by exfalso; omega) (fun c_9 => ?_)
          refine k_iload_n eX0_isUnder_12 rfl ?_
          refine k_if_lt 34 eX0_isUnder_13 (by decide) (fun c_13 => ?_) (fun c_13 => by exfalso; revert c_13; decide)
          refine k_iconst (v := nI 0) eX0_isUnder_34 (by decide) ?_
          refine k_ireturn eX0_isUnder_35 rfl rfl ?_
          exact ⟨rt_f (by omega), rfl⟩
        refine k_iconst (v := nI 1) eX0_isUnder_21 (by decide) ?_
        refine k_ireturn eX0_isUnder_22 rfl rfl ?_
        exact ⟨rt_t (by omega), rfl⟩
      refine k_iconst (v := nI 1) eX0_isUnder_21 (by decide) ?_
      refine k_ireturn eX0_isUnder_22 rfl rfl ?_
      exact ⟨rt_t (by omega), rfl⟩
    refine k_iconst (v := nI 1) eX0_isUnder_21 (by decide) ?_
    refine k_ireturn eX0_isUnder_22 rfl rfl ?_
    exact ⟨rt_t (by omega), rfl⟩
  refine k_iconst (v := nI 1) eX0_isUnder_21 (by decide) ?_
  refine k_ireturn eX0_isUnder_22 rfl rfl ?_
  exact ⟨rt_t (by omega), rfl⟩
set_option maxHeartbeats 400000 in
theorem pX0_isUnder4 {S : k_S} {w : Nat} (hw : w < 8) : Sp 1 0 0 MX0_isUnder [.ref 4, .int (nI 4), .int (nI w)] (hp S) (Rt (some (.int (b2i (w = 4 ∨ w = 0 ∨ w = 8)))) (hp S)) := by
  refine Sp_of (by decide +kernel) (Nat.le_of_ble_eq_true rfl) ?_
  show AW none MX0_isUnder 1 0 0 0 [.ref 4, .int (nI 4), .int (nI w), .null, .null] [] (hp S) _
  refine k_iload_n eX0_isUnder_0 rfl ?_
  refine k_istore_n (L2 := [_, _, _, _, _]) eX0_isUnder_1 (Nat.le_of_ble_eq_true rfl) rfl ?_
  refine k_iconst (v := nI 0) eX0_isUnder_2 (by decide) ?_
  refine k_istore (L2 := [_, _, _, _, _]) eX0_isUnder_3 (Nat.le_of_ble_eq_true rfl) rfl ?_
  refine k_iload eX0_isUnder_5 rfl ?_
  refine k_bipush (v := nI 8) eX0_isUnder_7 (by decide) ?_
  refine k_icmp_geN 34 eX0_isUnder_9 (by decide) (by omega) (by omega) (fun c_9 => by exfalso; omega) (fun c_9 => ?_)
  refine k_iload_n eX0_isUnder_12 rfl ?_
  refine k_if_ltN 34 eX0_isUnder_13 (by decide) (by omega) ?_
  refine k_iload_n eX0_isUnder_16 rfl ?_
  refine k_iload_n eX0_isUnder_17 rfl ?_
  refine k_icmp_neN 23 eX0_isUnder_18 (by decide) (by omega) (by omega) (fun c_18 => ?_) (fun c_18 => ?_)
  · refine k_iload_n eX0_isUnder_23 rfl ?_
    refine cS1 (M' := MX0_above) eX0_isUnder_24 mX0_33 wX0_above sX0_above rfl (pX0_above (S := S) (k := 4) (by decide)) (by decide) (Nat.le_of_ble_eq_true rfl) ?_
    refine k_topi (nI 0) (by decide) ?_
    refine k_istore_n (L2 := [_, _, _, _, _]) eX0_isUnder_27 (Nat.le_of_ble_eq_true rfl) rfl ?_
    refine k_iincN (g := 1) (a := 0) (L2 := [_, _, _, _, _]) eX0_isUnder_28 (Nat.le_of_ble_eq_true rfl) rfl rfl ?_
    refine k_goto 5 eX0_isUnder_31 (by decide) ?_
    refine k_iload eX0_isUnder_5 rfl ?_
    refine k_bipush (v := nI 8) eX0_isUnder_7 (by decide) ?_
    refine k_icmp_geN 34 eX0_isUnder_9 (by decide) (by omega) (by omega) (fun c_9 => by exfalso; omega) (fun c_9 => ?_)
    refine k_iload_n eX0_isUnder_12 rfl ?_
    refine k_if_ltN 34 eX0_isUnder_13 (by decide) (by omega) ?_
    refine k_iload_n eX0_isUnder_16 rfl ?_
    refine k_iload_n eX0_isUnder_17 rfl ?_
    refine k_icmp_neN 23 eX0_isUnder_18 (by decide) (by omega) (by omega) (fun c_18 => ?_) (fun c_18 => ?_)
    · refine k_iload_n eX0_isUnder_23 rfl ?_
      refine cS1 (M' := MX0_above) eX0_isUnder_24 mX0_33 wX0_above sX0_above rfl (pX0_above (S := S) (k := 0) (by decide)) (by decide) (Nat.le_of_ble_eq_true rfl) ?_
      refine k_topi (nI 8) (by decide) ?_
      refine k_istore_n (L2 := [_, _, _, _, _]) eX0_isUnder_27 (Nat.le_of_ble_eq_true rfl) rfl ?_
      refine k_iincN (g := 1) (a := 1) (L2 := [_, _, _, _, _]) eX0_isUnder_28 (Nat.le_of_ble_eq_true rfl) rfl rfl ?_
      refine k_goto 5 eX0_isUnder_31 (by decide) ?_
      refine k_iload eX0_isUnder_5 rfl ?_
      refine k_bipush (v := nI 8) eX0_isUnder_7 (by decide) ?_
      refine k_icmp_geN 34 eX0_isUnder_9 (by decide) (by omega) (by omega) (fun c_9 => by exfalso; omega) (fun c_9 => ?_)
      refine k_iload_n eX0_isUnder_12 rfl ?_
      refine k_if_ltN 34 eX0_isUnder_13 (by decide) (by omega) ?_
      refine k_iload_n eX0_isUnder_16 rfl ?_
      refine k_iload_n eX0_isUnder_17 rfl ?_
      refine k_icmp_neN 23 eX0_isUnder_18 (by decide) (by omega) (by omega) (fun c_18 => ?_) (fun c_18 => ?_)
      · refine k_iload_n eX0_isUnder_23 rfl ?_
        refine cS1 (M' := MX0_above) eX0_isUnder_24 mX0_33 wX0_above sX0_above rfl (pX0_above (S := S) (k := 8) (by decide)) (by decide) (Nat.le_of_ble_eq_true rfl) ?_
        refine k_topi ((-1)) (by decide) ?_
        refine k_istore_n (L2 := [_, _, _, _, _]) eX0_isUnder_27 (Nat.le_of_ble_eq_true rfl) rfl ?_
        refine k_iincN (g := 1) (a := 2) (L2 := [_, _, _, _, _]) eX0_isUnder_28 (Nat.le_of_ble_eq_true rfl) rfl rfl ?_
        refine k_goto 5 eX0_isUnder_31 (by decide) ?_
        refine k_iload eX0_isUnder_5 rfl ?_
        refine k_bipush (v := nI 8) eX0_isUnder_7 (by decide) ?_
        refine k_icmp_geN 34 eX0_isUnder_9 (by decide) (by omega) (by omega) (fun c_9 => by exfalso; omega) (fun c_9 => ?_)
        refine k_iload_n eX0_isUnder_12 rfl ?_
        refine k_if_lt 34 eX0_isUnder_13 (by decide) (fun c_13 => ?_) (fun c_13 => by exfalso; revert c_13; decide)
        refine k_iconst (v := nI 0) eX0_isUnder_34 (by decide) ?_
        refine k_ireturn eX0_isUnder_35 rfl rfl ?_
        exact ⟨rt_f (by omega), rfl⟩
      refine k_iconst (v := nI 1) eX0_isUnder_21 (by decide) ?_
      refine k_ireturn eX0_isUnder_22 rfl rfl ?_
      exact ⟨rt_t (by omega), rfl⟩
    refine k_iconst (v := nI 1) eX0_isUnder_21 (by decide) ?_
    refine k_ireturn eX0_isUnder_22 rfl rfl ?_
    exact ⟨rt_t (by omega), rfl⟩
  refine k_iconst (v := nI 1) eX0_isUnder_21 (by decide) ?_
  refine k_ireturn eX0_isUnder_22 rfl rfl ?_
  exact ⟨rt_t (by omega), rfl⟩
set_option maxHeartbeats 400000 in
theorem pX0_isUnder5 {S : k_S} {w : Nat} (hw : w < 8) : Sp 1 0 0 MX0_isUnder [.ref 4, .int (nI 5), .int (nI w)] (hp S) (Rt (some (.int (b2i (w = 5 ∨ w = 1 ∨ w = 0 ∨ w = 8)))) (hp S)) := by
  refine Sp_of (by decide +kernel) (Nat.le_of_ble_eq_true rfl) ?_
  show AW none MX0_isUnder 1 0 0 0 [.ref 4, .int (nI 5), .int (nI w), .null, .null] [] (hp S) _
  refine k_iload_n eX0_isUnder_0 rfl ?_
  refine k_istore_n (L2 := [_, _, _, _, _]) eX0_isUnder_1 (Nat.le_of_ble_eq_true rfl) rfl ?_
  refine k_iconst (v := nI 0) eX0_isUnder_2 (by decide) ?_
  refine k_istore (L2 := [_, _, _, _, _]) eX0_isUnder_3 (Nat.le_of_ble_eq_true rfl) rfl ?_
  refine k_iload eX0_isUnder_5 rfl ?_
  refine k_bipush (v := nI 8) eX0_isUnder_7 (by decide) ?_
  refine k_icmp_geN 34 eX0_isUnder_9 (by decide) (by omega) (by omega) (fun c_9 => by exfalso; omega) (fun c_9 => ?_)
  refine k_iload_n eX0_isUnder_12 rfl ?_
  refine k_if_ltN 34 eX0_isUnder_13 (by decide) (by omega) ?_
  refine k_iload_n eX0_isUnder_16 rfl ?_
  refine k_iload_n eX0_isUnder_17 rfl ?_
  refine k_icmp_neN 23 eX0_isUnder_18 (by decide) (by omega) (by omega) (fun c_18 => ?_) (fun c_18 => ?_)
  · refine k_iload_n eX0_isUnder_23 rfl ?_
    refine cS1 (M' := MX0_above) eX0_isUnder_24 mX0_33 wX0_above sX0_above rfl (pX0_above (S := S) (k := 5) (by decide)) (by decide) (Nat.le_of_ble_eq_true rfl) ?_
    refine k_topi (nI 1) (by decide) ?_
    refine k_istore_n (L2 := [_, _, _, _, _]) eX0_isUnder_27 (Nat.le_of_ble_eq_true rfl) rfl ?_
    refine k_iincN (g := 1) (a := 0) (L2 := [_, _, _, _, _]) eX0_isUnder_28 (Nat.le_of_ble_eq_true rfl) rfl rfl ?_
    refine k_goto 5 eX0_isUnder_31 (by decide) ?_
    refine k_iload eX0_isUnder_5 rfl ?_
    refine k_bipush (v := nI 8) eX0_isUnder_7 (by decide) ?_
    refine k_icmp_geN 34 eX0_isUnder_9 (by decide) (by omega) (by omega) (fun c_9 => by exfalso; omega) (fun c_9 => ?_)
    refine k_iload_n eX0_isUnder_12 rfl ?_
    refine k_if_ltN 34 eX0_isUnder_13 (by decide) (by omega) ?_
    refine k_iload_n eX0_isUnder_16 rfl ?_
    refine k_iload_n eX0_isUnder_17 rfl ?_
    refine k_icmp_neN 23 eX0_isUnder_18 (by decide) (by omega) (by omega) (fun c_18 => ?_) (fun c_18 => ?_)
    · refine k_iload_n eX0_isUnder_23 rfl ?_
      refine cS1 (M' := MX0_above) eX0_isUnder_24 mX0_33 wX0_above sX0_above rfl (pX0_above (S := S) (k := 1) (by decide)) (by decide) (Nat.le_of_ble_eq_true rfl) ?_
      refine k_topi (nI 0) (by decide) ?_
      refine k_istore_n (L2 := [_, _, _, _, _]) eX0_isUnder_27 (Nat.le_of_ble_eq_true rfl) rfl ?_
      refine k_iincN (g := 1) (a := 1) (L2 := [_, _, _, _, _]) eX0_isUnder_28 (Nat.le_of_ble_eq_true rfl) rfl rfl ?_
      refine k_goto 5 eX0_isUnder_31 (by decide) ?_
      refine k_iload eX0_isUnder_5 rfl ?_
      refine k_bipush (v := nI 8) eX0_isUnder_7 (by decide) ?_
      refine k_icmp_geN 34 eX0_isUnder_9 (by decide) (by omega) (by omega) (fun c_9 => by exfalso; omega) (fun c_9 => ?_)
      refine k_iload_n eX0_isUnder_12 rfl ?_
      refine k_if_ltN 34 eX0_isUnder_13 (by decide) (by omega) ?_
      refine k_iload_n eX0_isUnder_16 rfl ?_
      refine k_iload_n eX0_isUnder_17 rfl ?_
      refine k_icmp_neN 23 eX0_isUnder_18 (by decide) (by omega) (by omega) (fun c_18 => ?_) (fun c_18 => ?_)
      · refine k_iload_n eX0_isUnder_23 rfl ?_
        refine cS1 (M' := MX0_above) eX0_isUnder_24 mX0_33 wX0_above sX0_above rfl (pX0_above (S := S) (k := 0) (by decide)) (by decide) (Nat.le_of_ble_eq_true rfl) ?_
        refine k_topi (nI 8) (by decide) ?_
        refine k_istore_n (L2 := [_, _, _, _, _]) eX0_isUnder_27 (Nat.le_of_ble_eq_true rfl) rfl ?_
        refine k_iincN (g := 1) (a := 2) (L2 := [_, _, _, _, _]) eX0_isUnder_28 (Nat.le_of_ble_eq_true rfl) rfl rfl ?_
        refine k_goto 5 eX0_isUnder_31 (by decide) ?_
        refine k_iload eX0_isUnder_5 rfl ?_
        refine k_bipush (v := nI 8) eX0_isUnder_7 (by decide) ?_
        refine k_icmp_geN 34 eX0_isUnder_9 (by decide) (by omega) (by omega) (fun c_9 => by exfalso; omega) (fun c_9 => ?_)
        refine k_iload_n eX0_isUnder_12 rfl ?_
        refine k_if_ltN 34 eX0_isUnder_13 (by decide) (by omega) ?_
        refine k_iload_n eX0_isUnder_16 rfl ?_
        refine k_iload_n eX0_isUnder_17 rfl ?_
        refine k_icmp_neN 23 eX0_isUnder_18 (by decide) (by omega) (by omega) (fun c_18 => ?_) (fun c_18 => ?_)
        · refine k_iload_n eX0_isUnder_23 rfl ?_
          refine cS1 (M' := MX0_above) eX0_isUnder_24 mX0_33 wX0_above sX0_above rfl (pX0_above (S := S) (k := 8) (by decide)) (by decide) (Nat.le_of_ble_eq_true rfl) ?_
          refine k_topi ((-1)) (by decide) ?_
          refine k_istore_n (L2 := [_, _, _, _, _]) eX0_isUnder_27 (Nat.le_of_ble_eq_true rfl) rfl ?_
          refine k_iincN (g := 1) (a := 3) (L2 := [_, _, _, _, _]) eX0_isUnder_28 (Nat.le_of_ble_eq_true rfl) rfl rfl ?_
          refine k_goto 5 eX0_isUnder_31 (by decide) ?_
          refine k_iload eX0_isUnder_5 rfl ?_
          refine k_bipush (v := nI 8) eX0_isUnder_7 (by decide) ?_
          refine k_icmp_geN 34 eX0_isUnder_9 (by decide) (by omega) (by omega) (fun c_9 => by exfalso; omega) (fun c_9 => ?_)
          refine k_iload_n eX0_isUnder_12 rfl ?_
          refine k_if_lt 34 eX0_isUnder_13 (by decide) (fun c_13 => ?_) (fun c_13 => by exfalso; revert c_13; decide)
          refine k_iconst (v := nI 0) eX0_isUnder_34 (by decide) ?_
          refine k_ireturn eX0_isUnder_35 rfl rfl ?_
          exact ⟨rt_f (by omega), rfl⟩
        refine k_iconst (v := nI 1) eX0_isUnder_21 (by decide) ?_
        refine k_ireturn eX0_isUnder_22 rfl rfl ?_
        exact ⟨rt_t (by omega), rfl⟩
      refine k_iconst (v := nI 1) eX0_isUnder_21 (by decide) ?_
      refine k_ireturn eX0_isUnder_22 rfl rfl ?_
      exact ⟨rt_t (by omega), rfl⟩
    refine k_iconst (v := nI 1) eX0_isUnder_21 (by decide) ?_
    refine k_ireturn eX0_isUnder_22 rfl rfl ?_
    exact ⟨rt_t (by omega), rfl⟩
  refine k_iconst (v := nI 1) eX0_isUnder_21 (by decide) ?_
  refine k_ireturn eX0_isUnder_22 rfl rfl ?_
  exact ⟨rt_t (by omega), rfl⟩
set_option maxHeartbeats 400000 in
theorem pX0_isUnder6 {S : k_S} {w : Nat} (hw : w < 8) : Sp 1 0 0 MX0_isUnder [.ref 4, .int (nI 6), .int (nI w)] (hp S) (Rt (some (.int (b2i (w = 6 ∨ w = 0 ∨ w = 8)))) (hp S)) := by
  refine Sp_of (by decide +kernel) (Nat.le_of_ble_eq_true rfl) ?_
  show AW none MX0_isUnder 1 0 0 0 [.ref 4, .int (nI 6), .int (nI w), .null, .null] [] (hp S) _
  refine k_iload_n eX0_isUnder_0 rfl ?_
  refine k_istore_n (L2 := [_, _, _, _, _]) eX0_isUnder_1 (Nat.le_of_ble_eq_true rfl) rfl ?_
  refine k_iconst (v := nI 0) eX0_isUnder_2 (by decide) ?_
  refine k_istore (L2 := [_, _, _, _, _]) eX0_isUnder_3 (Nat.le_of_ble_eq_true rfl) rfl ?_
  refine k_iload eX0_isUnder_5 rfl ?_
  refine k_bipush (v := nI 8) eX0_isUnder_7 (by decide) ?_
  refine k_icmp_geN 34 eX0_isUnder_9 (by decide) (by omega) (by omega) (fun c_9 => by exfalso; omega) (fun c_9 => ?_)
  refine k_iload_n eX0_isUnder_12 rfl ?_
  refine k_if_ltN 34 eX0_isUnder_13 (by decide) (by omega) ?_
  refine k_iload_n eX0_isUnder_16 rfl ?_
  refine k_iload_n eX0_isUnder_17 rfl ?_
  refine k_icmp_neN 23 eX0_isUnder_18 (by decide) (by omega) (by omega) (fun c_18 => ?_) (fun c_18 => ?_)
  · refine k_iload_n eX0_isUnder_23 rfl ?_
    refine cS1 (M' := MX0_above) eX0_isUnder_24 mX0_33 wX0_above sX0_above rfl (pX0_above (S := S) (k := 6) (by decide)) (by decide) (Nat.le_of_ble_eq_true rfl) ?_
    refine k_topi (nI 0) (by decide) ?_
    refine k_istore_n (L2 := [_, _, _, _, _]) eX0_isUnder_27 (Nat.le_of_ble_eq_true rfl) rfl ?_
    refine k_iincN (g := 1) (a := 0) (L2 := [_, _, _, _, _]) eX0_isUnder_28 (Nat.le_of_ble_eq_true rfl) rfl rfl ?_
    refine k_goto 5 eX0_isUnder_31 (by decide) ?_
    refine k_iload eX0_isUnder_5 rfl ?_
    refine k_bipush (v := nI 8) eX0_isUnder_7 (by decide) ?_
    refine k_icmp_geN 34 eX0_isUnder_9 (by decide) (by omega) (by omega) (fun c_9 => by exfalso; omega) (fun c_9 => ?_)
    refine k_iload_n eX0_isUnder_12 rfl ?_
    refine k_if_ltN 34 eX0_isUnder_13 (by decide) (by omega) ?_
    refine k_iload_n eX0_isUnder_16 rfl ?_
    refine k_iload_n eX0_isUnder_17 rfl ?_
    refine k_icmp_neN 23 eX0_isUnder_18 (by decide) (by omega) (by omega) (fun c_18 => ?_) (fun c_18 => ?_)
    · refine k_iload_n eX0_isUnder_23 rfl ?_
      refine cS1 (M' := MX0_above) eX0_isUnder_24 mX0_33 wX0_above sX0_above rfl (pX0_above (S := S) (k := 0) (by decide)) (by decide) (Nat.le_of_ble_eq_true rfl) ?_
      refine k_topi (nI 8) (by decide) ?_
      refine k_istore_n (L2 := [_, _, _, _, _]) eX0_isUnder_27 (Nat.le_of_ble_eq_true rfl) rfl ?_
      refine k_iincN (g := 1) (a := 1) (L2 := [_, _, _, _, _]) eX0_isUnder_28 (Nat.le_of_ble_eq_true rfl) rfl rfl ?_
      refine k_goto 5 eX0_isUnder_31 (by decide) ?_
      refine k_iload eX0_isUnder_5 rfl ?_
      refine k_bipush (v := nI 8) eX0_isUnder_7 (by decide) ?_
      refine k_icmp_geN 34 eX0_isUnder_9 (by decide) (by omega) (by omega) (fun c_9 => by exfalso; omega) (fun c_9 => ?_)
      refine k_iload_n eX0_isUnder_12 rfl ?_
      refine k_if_ltN 34 eX0_isUnder_13 (by decide) (by omega) ?_
      refine k_iload_n eX0_isUnder_16 rfl ?_
      refine k_iload_n eX0_isUnder_17 rfl ?_
      refine k_icmp_neN 23 eX0_isUnder_18 (by decide) (by omega) (by omega) (fun c_18 => ?_) (fun c_18 => ?_)
      · refine k_iload_n eX0_isUnder_23 rfl ?_
        refine cS1 (M' := MX0_above) eX0_isUnder_24 mX0_33 wX0_above sX0_above rfl (pX0_above (S := S) (k := 8) (by decide)) (by decide) (Nat.le_of_ble_eq_true rfl) ?_
        refine k_topi ((-1)) (by decide) ?_
        refine k_istore_n (L2 := [_, _, _, _, _]) eX0_isUnder_27 (Nat.le_of_ble_eq_true rfl) rfl ?_
        refine k_iincN (g := 1) (a := 2) (L2 := [_, _, _, _, _]) eX0_isUnder_28 (Nat.le_of_ble_eq_true rfl) rfl rfl ?_
        refine k_goto 5 eX0_isUnder_31 (by decide) ?_
        refine k_iload eX0_isUnder_5 rfl ?_
        refine k_bipush (v := nI 8) eX0_isUnder_7 (by decide) ?_
        refine k_icmp_geN 34 eX0_isUnder_9 (by decide) (by omega) (by omega) (fun c_9 => by exfalso; omega) (fun c_9 => ?_)
        refine k_iload_n eX0_isUnder_12 rfl ?_
        refine k_if_lt 34 eX0_isUnder_13 (by decide) (fun c_13 => ?_) (fun c_13 => by exfalso; revert c_13; decide)
        refine k_iconst (v := nI 0) eX0_isUnder_34 (by decide) ?_
        refine k_ireturn eX0_isUnder_35 rfl rfl ?_
        exact ⟨rt_f (by omega), rfl⟩
      refine k_iconst (v := nI 1) eX0_isUnder_21 (by decide) ?_
      refine k_ireturn eX0_isUnder_22 rfl rfl ?_
      exact ⟨rt_t (by omega), rfl⟩
    refine k_iconst (v := nI 1) eX0_isUnder_21 (by decide) ?_
    refine k_ireturn eX0_isUnder_22 rfl rfl ?_
    exact ⟨rt_t (by omega), rfl⟩
  refine k_iconst (v := nI 1) eX0_isUnder_21 (by decide) ?_
  refine k_ireturn eX0_isUnder_22 rfl rfl ?_
  exact ⟨rt_t (by omega), rfl⟩
set_option maxHeartbeats 400000 in
theorem pX0_isUnder7 {S : k_S} {w : Nat} (hw : w < 8) : Sp 1 0 0 MX0_isUnder [.ref 4, .int (nI 7), .int (nI w)] (hp S) (Rt (some (.int (b2i (w = 7 ∨ w = 3 ∨ w = 2 ∨ w = 0 ∨ w = 8)))) (hp S)) := by
  refine Sp_of (by decide +kernel) (Nat.le_of_ble_eq_true rfl) ?_
  show AW none MX0_isUnder 1 0 0 0 [.ref 4, .int (nI 7), .int (nI w), .null, .null] [] (hp S) _
  refine k_iload_n eX0_isUnder_0 rfl ?_
  refine k_istore_n (L2 := [_, _, _, _, _]) eX0_isUnder_1 (Nat.le_of_ble_eq_true rfl) rfl ?_
  refine k_iconst (v := nI 0) eX0_isUnder_2 (by decide) ?_
  refine k_istore (L2 := [_, _, _, _, _]) eX0_isUnder_3 (Nat.le_of_ble_eq_true rfl) rfl ?_
  refine k_iload eX0_isUnder_5 rfl ?_
  refine k_bipush (v := nI 8) eX0_isUnder_7 (by decide) ?_
  refine k_icmp_geN 34 eX0_isUnder_9 (by decide) (by omega) (by omega) (fun c_9 => by exfalso; omega) (fun c_9 => ?_)
  refine k_iload_n eX0_isUnder_12 rfl ?_
  refine k_if_ltN 34 eX0_isUnder_13 (by decide) (by omega) ?_
  refine k_iload_n eX0_isUnder_16 rfl ?_
  refine k_iload_n eX0_isUnder_17 rfl ?_
  refine k_icmp_neN 23 eX0_isUnder_18 (by decide) (by omega) (by omega) (fun c_18 => ?_) (fun c_18 => ?_)
  · refine k_iload_n eX0_isUnder_23 rfl ?_
    refine cS1 (M' := MX0_above) eX0_isUnder_24 mX0_33 wX0_above sX0_above rfl (pX0_above (S := S) (k := 7) (by decide)) (by decide) (Nat.le_of_ble_eq_true rfl) ?_
    refine k_topi (nI 3) (by decide) ?_
    refine k_istore_n (L2 := [_, _, _, _, _]) eX0_isUnder_27 (Nat.le_of_ble_eq_true rfl) rfl ?_
    refine k_iincN (g := 1) (a := 0) (L2 := [_, _, _, _, _]) eX0_isUnder_28 (Nat.le_of_ble_eq_true rfl) rfl rfl ?_
    refine k_goto 5 eX0_isUnder_31 (by decide) ?_
    refine k_iload eX0_isUnder_5 rfl ?_
    refine k_bipush (v := nI 8) eX0_isUnder_7 (by decide) ?_
    refine k_icmp_geN 34 eX0_isUnder_9 (by decide) (by omega) (by omega) (fun c_9 => by exfalso; omega) (fun c_9 => ?_)
    refine k_iload_n eX0_isUnder_12 rfl ?_
    refine k_if_ltN 34 eX0_isUnder_13 (by decide) (by omega) ?_
    refine k_iload_n eX0_isUnder_16 rfl ?_
    refine k_iload_n eX0_isUnder_17 rfl ?_
    refine k_icmp_neN 23 eX0_isUnder_18 (by decide) (by omega) (by omega) (fun c_18 => ?_) (fun c_18 => ?_)
    · refine k_iload_n eX0_isUnder_23 rfl ?_
      refine cS1 (M' := MX0_above) eX0_isUnder_24 mX0_33 wX0_above sX0_above rfl (pX0_above (S := S) (k := 3) (by decide)) (by decide) (Nat.le_of_ble_eq_true rfl) ?_
      refine k_topi (nI 2) (by decide) ?_
      refine k_istore_n (L2 := [_, _, _, _, _]) eX0_isUnder_27 (Nat.le_of_ble_eq_true rfl) rfl ?_
      refine k_iincN (g := 1) (a := 1) (L2 := [_, _, _, _, _]) eX0_isUnder_28 (Nat.le_of_ble_eq_true rfl) rfl rfl ?_
      refine k_goto 5 eX0_isUnder_31 (by decide) ?_
      refine k_iload eX0_isUnder_5 rfl ?_
      refine k_bipush (v := nI 8) eX0_isUnder_7 (by decide) ?_
      refine k_icmp_geN 34 eX0_isUnder_9 (by decide) (by omega) (by omega) (fun c_9 => by exfalso; omega) (fun c_9 => ?_)
      refine k_iload_n eX0_isUnder_12 rfl ?_
      refine k_if_ltN 34 eX0_isUnder_13 (by decide) (by omega) ?_
      refine k_iload_n eX0_isUnder_16 rfl ?_
      refine k_iload_n eX0_isUnder_17 rfl ?_
      refine k_icmp_neN 23 eX0_isUnder_18 (by decide) (by omega) (by omega) (fun c_18 => ?_) (fun c_18 => ?_)
      · refine k_iload_n eX0_isUnder_23 rfl ?_
        refine cS1 (M' := MX0_above) eX0_isUnder_24 mX0_33 wX0_above sX0_above rfl (pX0_above (S := S) (k := 2) (by decide)) (by decide) (Nat.le_of_ble_eq_true rfl) ?_
        refine k_topi (nI 0) (by decide) ?_
        refine k_istore_n (L2 := [_, _, _, _, _]) eX0_isUnder_27 (Nat.le_of_ble_eq_true rfl) rfl ?_
        refine k_iincN (g := 1) (a := 2) (L2 := [_, _, _, _, _]) eX0_isUnder_28 (Nat.le_of_ble_eq_true rfl) rfl rfl ?_
        refine k_goto 5 eX0_isUnder_31 (by decide) ?_
        refine k_iload eX0_isUnder_5 rfl ?_
        refine k_bipush (v := nI 8) eX0_isUnder_7 (by decide) ?_
        refine k_icmp_geN 34 eX0_isUnder_9 (by decide) (by omega) (by omega) (fun c_9 => by exfalso; omega) (fun c_9 => ?_)
        refine k_iload_n eX0_isUnder_12 rfl ?_
        refine k_if_ltN 34 eX0_isUnder_13 (by decide) (by omega) ?_
        refine k_iload_n eX0_isUnder_16 rfl ?_
        refine k_iload_n eX0_isUnder_17 rfl ?_
        refine k_icmp_neN 23 eX0_isUnder_18 (by decide) (by omega) (by omega) (fun c_18 => ?_) (fun c_18 => ?_)
        · refine k_iload_n eX0_isUnder_23 rfl ?_
          refine cS1 (M' := MX0_above) eX0_isUnder_24 mX0_33 wX0_above sX0_above rfl (pX0_above (S := S) (k := 0) (by decide)) (by decide) (Nat.le_of_ble_eq_true rfl) ?_
          refine k_topi (nI 8) (by decide) ?_
          refine k_istore_n (L2 := [_, _, _, _, _]) eX0_isUnder_27 (Nat.le_of_ble_eq_true rfl) rfl ?_
          refine k_iincN (g := 1) (a := 3) (L2 := [_, _, _, _, _]) eX0_isUnder_28 (Nat.le_of_ble_eq_true rfl) rfl rfl ?_
          refine k_goto 5 eX0_isUnder_31 (by decide) ?_
          refine k_iload eX0_isUnder_5 rfl ?_
          refine k_bipush (v := nI 8) eX0_isUnder_7 (by decide) ?_
          refine k_icmp_geN 34 eX0_isUnder_9 (by decide) (by omega) (by omega) (fun c_9 => by exfalso; omega) (fun c_9 => ?_)
          refine k_iload_n eX0_isUnder_12 rfl ?_
          refine k_if_ltN 34 eX0_isUnder_13 (by decide) (by omega) ?_
          refine k_iload_n eX0_isUnder_16 rfl ?_
          refine k_iload_n eX0_isUnder_17 rfl ?_
          refine k_icmp_neN 23 eX0_isUnder_18 (by decide) (by omega) (by omega) (fun c_18 => ?_) (fun c_18 => ?_)
          · refine k_iload_n eX0_isUnder_23 rfl ?_
            refine cS1 (M' := MX0_above) eX0_isUnder_24 mX0_33 wX0_above sX0_above rfl (pX0_above (S := S) (k := 8) (by decide)) (by decide) (Nat.le_of_ble_eq_true rfl) ?_
            refine k_topi ((-1)) (by decide) ?_
            refine k_istore_n (L2 := [_, _, _, _, _]) eX0_isUnder_27 (Nat.le_of_ble_eq_true rfl) rfl ?_
            refine k_iincN (g := 1) (a := 4) (L2 := [_, _, _, _, _]) eX0_isUnder_28 (Nat.le_of_ble_eq_true rfl) rfl rfl ?_
            refine k_goto 5 eX0_isUnder_31 (by decide) ?_
            refine k_iload eX0_isUnder_5 rfl ?_
            refine k_bipush (v := nI 8) eX0_isUnder_7 (by decide) ?_
            refine k_icmp_geN 34 eX0_isUnder_9 (by decide) (by omega) (by omega) (fun c_9 => by exfalso; omega) (fun c_9 => ?_)
            refine k_iload_n eX0_isUnder_12 rfl ?_
            refine k_if_lt 34 eX0_isUnder_13 (by decide) (fun c_13 => ?_) (fun c_13 => by exfalso; revert c_13; decide)
            refine k_iconst (v := nI 0) eX0_isUnder_34 (by decide) ?_
            refine k_ireturn eX0_isUnder_35 rfl rfl ?_
            exact ⟨rt_f (by omega), rfl⟩
          refine k_iconst (v := nI 1) eX0_isUnder_21 (by decide) ?_
          refine k_ireturn eX0_isUnder_22 rfl rfl ?_
          exact ⟨rt_t (by omega), rfl⟩
        refine k_iconst (v := nI 1) eX0_isUnder_21 (by decide) ?_
        refine k_ireturn eX0_isUnder_22 rfl rfl ?_
        exact ⟨rt_t (by omega), rfl⟩
      refine k_iconst (v := nI 1) eX0_isUnder_21 (by decide) ?_
      refine k_ireturn eX0_isUnder_22 rfl rfl ?_
      exact ⟨rt_t (by omega), rfl⟩
    refine k_iconst (v := nI 1) eX0_isUnder_21 (by decide) ?_
    refine k_ireturn eX0_isUnder_22 rfl rfl ?_
    exact ⟨rt_t (by omega), rfl⟩
  refine k_iconst (v := nI 1) eX0_isUnder_21 (by decide) ?_
  refine k_ireturn eX0_isUnder_22 rfl rfl ?_
  exact ⟨rt_t (by omega), rfl⟩
set_option maxHeartbeats 400000 in
theorem pX0_run_0_1 {S : k_S} {n dep : Nat} {nb : Int32} (hK : S.1 205 = nI 0) (hnb : S.1 204 = nb) (hran : S.1 203 = nI n) (hn : n + 0 ≤ 24) (hdep : dep + 0 ≤ 40) (x : Int32) : Sp 0 0 0 MX0_run [.ref 4, .int (nI 1), .int (x), .int (nI dep)] (hp S) (Rt (some (.int ((x + nb)))) (hp S)) := by
  refine Sp_of (by decide +kernel) (Nat.le_of_ble_eq_true rfl) ?_
  show AW none MX0_run 0 0 0 0 [.ref 4, .int (nI 1), .int (x), .int (nI dep)] [] (hp S) _
  refine k_iload_n eX0_run_0 rfl ?_
  refine k_look 116 eX0_run_1 (by decide) (off := 115) (by decide) (by decide) ?_
  refine k_iload_n eX0_run_116 rfl ?_
  refine k_aload_n eX0_run_117 rfl ?_
  refine GX0_45 eX0_run_118 rfl ?_
  refine k_topi (nb) hnb ?_
  refine k_iadd eX0_run_121 ?_
  refine k_ireturn eX0_run_122 rfl rfl ?_
  exact ⟨rfl, rfl⟩
set_option maxHeartbeats 400000 in
theorem pX0_ask_0_0_0 {S : k_S} {n dep : Nat} {nb : Int32} (hK : S.1 205 = nI 0) (hnb : S.1 204 = nb) (hran : S.1 203 = nI n) (hn : n + 1 ≤ 24) (hdep : dep + 1 ≤ 40) (x : Int32) : Sp 1 0 0 MX0_ask [.ref 4, .int (nI 0), .int (nI 0), .int (x), .int (nI dep)] (hp S) (Rt (some (.int ((x + nb)))) (hp (trc S n [1]))) := by
  refine Sp_of (by decide +kernel) (Nat.le_of_ble_eq_true rfl) ?_
  show AW none MX0_ask 1 0 0 0 [.ref 4, .int (nI 0), .int (nI 0), .int (x), .int (nI dep), .null, .null, .null] [] (hp S) _
  refine k_iload eX0_ask_0 rfl ?_
  refine k_bipush (v := nI 40) eX0_ask_2 (by decide) ?_
  refine k_icmp_leN 9 eX0_ask_4 (by decide) (by omega) (by omega) (fun c_4 => ?_) (fun c_4 => by exfalso; omega)
  refine k_iload_n eX0_ask_9 rfl ?_
  refine k_istore (L2 := [_, _, _, _, _, _, _, _]) eX0_ask_10 (Nat.le_of_ble_eq_true rfl) rfl ?_
  refine k_iconst (v := nI 0) eX0_ask_12 (by decide) ?_
  refine k_istore (L2 := [_, _, _, _, _, _, _, _]) eX0_ask_13 (Nat.le_of_ble_eq_true rfl) rfl ?_
  refine k_iload eX0_ask_15 rfl ?_
  refine k_bipush (v := nI 8) eX0_ask_17 (by decide) ?_
  refine k_icmp_gtN 88 eX0_ask_19 (by decide) (by omega) (by omega) (fun c_19 => by exfalso; omega) (fun c_19 => ?_)
  refine k_iload eX0_ask_22 rfl ?_
  refine k_if_ltN 88 eX0_ask_24 (by decide) (by omega) ?_
  refine k_iload eX0_ask_27 rfl ?_
  refine k_iload_n eX0_ask_29 rfl ?_
  refine cS1 (M' := MX0_bodyOf) eX0_ask_30 mX0_64 wX0_bodyOf sX0_bodyOf rfl (pX0_bodyOf (S := S) (k := 0) (s := 0) (by decide) (by decide)) (by decide) (Nat.le_of_ble_eq_true rfl) ?_
  refine k_topi (nI 0) (by decide) ?_
  refine k_istore (L2 := [_, _, _, _, _, _, _, _]) eX0_ask_33 (Nat.le_of_ble_eq_true rfl) rfl ?_
  refine k_iload eX0_ask_35 rfl ?_
  refine k_if_eqN 75 eX0_ask_37 (by decide) (by omega) (fun c_37 => ?_) (fun c_37 => by exfalso; omega)
  refine k_iload eX0_ask_75 rfl ?_
  refine cS1 (M' := MX0_above) eX0_ask_77 mX0_33 wX0_above sX0_above rfl (pX0_above (S := S) (k := 0) (by decide)) (by decide) (Nat.le_of_ble_eq_true rfl) ?_
  refine k_topi (nI 8) (by decide) ?_
  refine k_istore (L2 := [_, _, _, _, _, _, _, _]) eX0_ask_80 (Nat.le_of_ble_eq_true rfl) rfl ?_
  refine k_iincN (g := 1) (a := 0) (L2 := [_, _, _, _, _, _, _, _]) eX0_ask_82 (Nat.le_of_ble_eq_true rfl) rfl rfl ?_
  refine k_goto 15 eX0_ask_85 (by decide) ?_
  refine k_iload eX0_ask_15 rfl ?_
  refine k_bipush (v := nI 8) eX0_ask_17 (by decide) ?_
  refine k_icmp_gtN 88 eX0_ask_19 (by decide) (by omega) (by omega) (fun c_19 => by exfalso; omega) (fun c_19 => ?_)
  refine k_iload eX0_ask_22 rfl ?_
  refine k_if_ltN 88 eX0_ask_24 (by decide) (by omega) ?_
  refine k_iload eX0_ask_27 rfl ?_
  refine k_iload_n eX0_ask_29 rfl ?_
  refine cS1 (M' := MX0_bodyOf) eX0_ask_30 mX0_64 wX0_bodyOf sX0_bodyOf rfl (pX0_bodyOf (S := S) (k := 8) (s := 0) (by decide) (by decide)) (by decide) (Nat.le_of_ble_eq_true rfl) ?_
  refine k_topi (nI 1) (by decide) ?_
  refine k_istore (L2 := [_, _, _, _, _, _, _, _]) eX0_ask_33 (Nat.le_of_ble_eq_true rfl) rfl ?_
  refine k_iload eX0_ask_35 rfl ?_
  refine k_if_eqN 75 eX0_ask_37 (by decide) (by omega) (fun c_37 => by exfalso; omega) (fun c_37 => ?_)
  refine k_aload_n eX0_ask_40 rfl ?_
  refine GX0_19 eX0_ask_41 rfl ?_
  refine k_aload_n eX0_ask_44 rfl ?_
  refine GX0_22 eX0_ask_45 rfl ?_
  refine k_topi (nI n) hran ?_
  refine k_iload eX0_ask_48 rfl ?_
  refine cN0 (M' := MX11_write) eX0_ask_50 mX0_25 wX11_write sX11_write rfl (pX11_writeN (j := n) (v := nI 1) (ar6 _) (by omega) (by decide) (as6 _ _)) (by decide) (Nat.le_of_ble_eq_true rfl) ?_
  refine k_aload_n eX0_ask_53 rfl ?_
  refine k_dup eX0_ask_54 rfl ?_
  refine GX0_22 eX0_ask_55 rfl ?_
  refine k_topi (nI n) hran ?_
  refine k_iconst (v := nI 1) eX0_ask_58 (by decide) ?_
  refine k_iaddN eX0_ask_59 ?_
  refine PX0_22 eX0_ask_60 rfl ?_
  refine k_heap (h2 := hp (trc1 S n 1)) rfl ?_
  refine k_aload_n eX0_ask_63 rfl ?_
  refine k_iload eX0_ask_64 rfl ?_
  refine k_iload_n eX0_ask_66 rfl ?_
  refine k_iload eX0_ask_67 rfl ?_
  refine k_iconst (v := nI 1) eX0_ask_69 (by decide) ?_
  refine k_iaddN eX0_ask_70 ?_
  refine cV1 (M' := MX0_run) eX0_ask_71 mX0_68 wX0_run vX0_run ⟨_, _, _, rfl, rfl, rfl⟩ rfl (pX0_run_0_1 (S := (trc1 S n 1)) (n := n + 1) (dep := (dep + 1)) (nb := nb) (t1K hK) (t1N hnb) rfl (by omega) (by omega) (x)) (by decide) (Nat.le_of_ble_eq_true rfl) ?_
  refine k_ireturn eX0_ask_74 rfl rfl ?_
  exact ⟨rfl, rfl⟩
set_option maxHeartbeats 400000 in
theorem pX0_own_0_0 {S : k_S} {n dep : Nat} {nb : Int32} (hK : S.1 205 = nI 0) (hnb : S.1 204 = nb) (hran : S.1 203 = nI n) (hn : n + 1 ≤ 24) (hdep : dep + 1 ≤ 40) (x : Int32) : Sp 2 0 0 MX0_own [.ref 4, .int (nI 0), .int (x), .int (nI dep)] (hp S) (Rt (some (.int ((x + nb)))) (hp (trc S n [1]))) := by
  refine Sp_of (by decide +kernel) (Nat.le_of_ble_eq_true rfl) ?_
  show AW none MX0_own 2 0 0 0 [.ref 4, .int (nI 0), .int (x), .int (nI dep)] [] (hp S) _
  refine k_aload_n eX0_own_0 rfl ?_
  refine k_aload_n eX0_own_1 rfl ?_
  refine GX0_51 eX0_own_2 rfl ?_
  refine k_topi (nI 0) hK ?_
  refine k_iload_n eX0_own_5 rfl ?_
  refine k_iload_n eX0_own_6 rfl ?_
  refine k_iload_n eX0_own_7 rfl ?_
  refine cV1 (M' := MX0_ask) eX0_own_8 mX0_54 wX0_ask vX0_ask ⟨_, _, _, rfl, rfl, rfl⟩ rfl (pX0_ask_0_0_0 (S := S) (n := n) (dep := dep) (nb := nb) hK hnb hran (by omega) (by omega) (x)) (by decide) (Nat.le_of_ble_eq_true rfl) ?_
  refine k_ireturn eX0_own_11 rfl rfl ?_
  exact ⟨rfl, rfl⟩
set_option maxHeartbeats 400000 in
theorem pX0_run_0_10 {S : k_S} {n dep : Nat} {nb : Int32} (hK : S.1 205 = nI 0) (hnb : S.1 204 = nb) (hran : S.1 203 = nI n) (hn : n + 1 ≤ 24) (hdep : dep + 1 ≤ 40) (x : Int32) : Sp 3 0 0 MX0_run [.ref 4, .int (nI 10), .int (x), .int (nI dep)] (hp S) (Rt (some (.int (((x + nb) * nI 2)))) (hp (trc S n [1]))) := by
  refine Sp_of (by decide +kernel) (Nat.le_of_ble_eq_true rfl) ?_
  show AW none MX0_run 3 0 0 0 [.ref 4, .int (nI 10), .int (x), .int (nI dep)] [] (hp S) _
  refine k_iload_n eX0_run_0 rfl ?_
  refine k_look 139 eX0_run_1 (by decide) (off := 138) (by decide) (by decide) ?_
  refine k_aload_n eX0_run_139 rfl ?_
  refine k_iconst (v := nI 0) eX0_run_140 (by decide) ?_
  refine k_iload_n eX0_run_141 rfl ?_
  refine k_iload_n eX0_run_142 rfl ?_
  refine cV1 (M' := MX0_own) eX0_run_143 mX0_72 wX0_own vX0_own ⟨_, _, _, rfl, rfl, rfl⟩ rfl (pX0_own_0_0 (S := S) (n := n) (dep := dep) (nb := nb) hK hnb hran (by omega) (by omega) (x)) (by decide) (Nat.le_of_ble_eq_true rfl) ?_
  refine k_iconst (v := nI 2) eX0_run_146 (by decide) ?_
  refine k_imul eX0_run_147 ?_
  refine k_ireturn eX0_run_148 rfl rfl ?_
  exact ⟨rfl, rfl⟩
set_option maxHeartbeats 400000 in
theorem pX0_ask_0_0_1 {S : k_S} {n dep : Nat} {nb : Int32} (hK : S.1 205 = nI 0) (hnb : S.1 204 = nb) (hran : S.1 203 = nI n) (hn : n + 2 ≤ 24) (hdep : dep + 2 ≤ 40) (x : Int32) : Sp 4 0 0 MX0_ask [.ref 4, .int (nI 0), .int (nI 1), .int (x), .int (nI dep)] (hp S) (Rt (some (.int (((x + nb) * nI 2)))) (hp (trc S n [10, 1]))) := by
  refine Sp_of (by decide +kernel) (Nat.le_of_ble_eq_true rfl) ?_
  show AW none MX0_ask 4 0 0 0 [.ref 4, .int (nI 0), .int (nI 1), .int (x), .int (nI dep), .null, .null, .null] [] (hp S) _
  refine k_iload eX0_ask_0 rfl ?_
  refine k_bipush (v := nI 40) eX0_ask_2 (by decide) ?_
  refine k_icmp_leN 9 eX0_ask_4 (by decide) (by omega) (by omega) (fun c_4 => ?_) (fun c_4 => by exfalso; omega)
  refine k_iload_n eX0_ask_9 rfl ?_
  refine k_istore (L2 := [_, _, _, _, _, _, _, _]) eX0_ask_10 (Nat.le_of_ble_eq_true rfl) rfl ?_
  refine k_iconst (v := nI 0) eX0_ask_12 (by decide) ?_
  refine k_istore (L2 := [_, _, _, _, _, _, _, _]) eX0_ask_13 (Nat.le_of_ble_eq_true rfl) rfl ?_
  refine k_iload eX0_ask_15 rfl ?_
  refine k_bipush (v := nI 8) eX0_ask_17 (by decide) ?_
  refine k_icmp_gtN 88 eX0_ask_19 (by decide) (by omega) (by omega) (fun c_19 => by exfalso; omega) (fun c_19 => ?_)
  refine k_iload eX0_ask_22 rfl ?_
  refine k_if_ltN 88 eX0_ask_24 (by decide) (by omega) ?_
  refine k_iload eX0_ask_27 rfl ?_
  refine k_iload_n eX0_ask_29 rfl ?_
  refine cS1 (M' := MX0_bodyOf) eX0_ask_30 mX0_64 wX0_bodyOf sX0_bodyOf rfl (pX0_bodyOf (S := S) (k := 0) (s := 1) (by decide) (by decide)) (by decide) (Nat.le_of_ble_eq_true rfl) ?_
  refine k_topi (nI 10) (by decide) ?_
  refine k_istore (L2 := [_, _, _, _, _, _, _, _]) eX0_ask_33 (Nat.le_of_ble_eq_true rfl) rfl ?_
  refine k_iload eX0_ask_35 rfl ?_
  refine k_if_eqN 75 eX0_ask_37 (by decide) (by omega) (fun c_37 => by exfalso; omega) (fun c_37 => ?_)
  refine k_aload_n eX0_ask_40 rfl ?_
  refine GX0_19 eX0_ask_41 rfl ?_
  refine k_aload_n eX0_ask_44 rfl ?_
  refine GX0_22 eX0_ask_45 rfl ?_
  refine k_topi (nI n) hran ?_
  refine k_iload eX0_ask_48 rfl ?_
  refine cN0 (M' := MX11_write) eX0_ask_50 mX0_25 wX11_write sX11_write rfl (pX11_writeN (j := n) (v := nI 10) (ar6 _) (by omega) (by decide) (as6 _ _)) (by decide) (Nat.le_of_ble_eq_true rfl) ?_
  refine k_aload_n eX0_ask_53 rfl ?_
  refine k_dup eX0_ask_54 rfl ?_
  refine GX0_22 eX0_ask_55 rfl ?_
  refine k_topi (nI n) hran ?_
  refine k_iconst (v := nI 1) eX0_ask_58 (by decide) ?_
  refine k_iaddN eX0_ask_59 ?_
  refine PX0_22 eX0_ask_60 rfl ?_
  refine k_heap (h2 := hp (trc1 S n 10)) rfl ?_
  refine k_aload_n eX0_ask_63 rfl ?_
  refine k_iload eX0_ask_64 rfl ?_
  refine k_iload_n eX0_ask_66 rfl ?_
  refine k_iload eX0_ask_67 rfl ?_
  refine k_iconst (v := nI 1) eX0_ask_69 (by decide) ?_
  refine k_iaddN eX0_ask_70 ?_
  refine cV1 (M' := MX0_run) eX0_ask_71 mX0_68 wX0_run vX0_run ⟨_, _, _, rfl, rfl, rfl⟩ rfl (pX0_run_0_10 (S := (trc1 S n 10)) (n := n + 1) (dep := (dep + 1)) (nb := nb) (t1K hK) (t1N hnb) rfl (by omega) (by omega) (x)) (by decide) (Nat.le_of_ble_eq_true rfl) ?_
  refine k_ireturn eX0_ask_74 rfl rfl ?_
  exact ⟨rfl, congrArg hp (trc_cons S n 10 [1]).symm⟩
set_option maxHeartbeats 400000 in
theorem pX0_run_0_11 {S : k_S} {n dep : Nat} {nb : Int32} (hK : S.1 205 = nI 0) (hnb : S.1 204 = nb) (hran : S.1 203 = nI n) (hn : n + 0 ≤ 24) (hdep : dep + 0 ≤ 40) (x : Int32) : Sp 0 0 0 MX0_run [.ref 4, .int (nI 11), .int (x), .int (nI dep)] (hp S) (Rt (some (.int ((x ^^^ nb)))) (hp S)) := by
  refine Sp_of (by decide +kernel) (Nat.le_of_ble_eq_true rfl) ?_
  show AW none MX0_run 0 0 0 0 [.ref 4, .int (nI 11), .int (x), .int (nI dep)] [] (hp S) _
  refine k_iload_n eX0_run_0 rfl ?_
  refine k_look 149 eX0_run_1 (by decide) (off := 148) (by decide) (by decide) ?_
  refine k_iload_n eX0_run_149 rfl ?_
  refine k_aload_n eX0_run_150 rfl ?_
  refine GX0_45 eX0_run_151 rfl ?_
  refine k_topi (nb) hnb ?_
  refine k_ixor eX0_run_154 ?_
  refine k_ireturn eX0_run_155 rfl rfl ?_
  exact ⟨rfl, rfl⟩
set_option maxHeartbeats 400000 in
theorem pX0_ask_0_0_2 {S : k_S} {n dep : Nat} {nb : Int32} (hK : S.1 205 = nI 0) (hnb : S.1 204 = nb) (hran : S.1 203 = nI n) (hn : n + 1 ≤ 24) (hdep : dep + 1 ≤ 40) (x : Int32) : Sp 1 0 0 MX0_ask [.ref 4, .int (nI 0), .int (nI 2), .int (x), .int (nI dep)] (hp S) (Rt (some (.int ((x ^^^ nb)))) (hp (trc S n [11]))) := by
  refine Sp_of (by decide +kernel) (Nat.le_of_ble_eq_true rfl) ?_
  show AW none MX0_ask 1 0 0 0 [.ref 4, .int (nI 0), .int (nI 2), .int (x), .int (nI dep), .null, .null, .null] [] (hp S) _
  refine k_iload eX0_ask_0 rfl ?_
  refine k_bipush (v := nI 40) eX0_ask_2 (by decide) ?_
  refine k_icmp_leN 9 eX0_ask_4 (by decide) (by omega) (by omega) (fun c_4 => ?_) (fun c_4 => by exfalso; omega)
  refine k_iload_n eX0_ask_9 rfl ?_
  refine k_istore (L2 := [_, _, _, _, _, _, _, _]) eX0_ask_10 (Nat.le_of_ble_eq_true rfl) rfl ?_
  refine k_iconst (v := nI 0) eX0_ask_12 (by decide) ?_
  refine k_istore (L2 := [_, _, _, _, _, _, _, _]) eX0_ask_13 (Nat.le_of_ble_eq_true rfl) rfl ?_
  refine k_iload eX0_ask_15 rfl ?_
  refine k_bipush (v := nI 8) eX0_ask_17 (by decide) ?_
  refine k_icmp_gtN 88 eX0_ask_19 (by decide) (by omega) (by omega) (fun c_19 => by exfalso; omega) (fun c_19 => ?_)
  refine k_iload eX0_ask_22 rfl ?_
  refine k_if_ltN 88 eX0_ask_24 (by decide) (by omega) ?_
  refine k_iload eX0_ask_27 rfl ?_
  refine k_iload_n eX0_ask_29 rfl ?_
  refine cS1 (M' := MX0_bodyOf) eX0_ask_30 mX0_64 wX0_bodyOf sX0_bodyOf rfl (pX0_bodyOf (S := S) (k := 0) (s := 2) (by decide) (by decide)) (by decide) (Nat.le_of_ble_eq_true rfl) ?_
  refine k_topi (nI 11) (by decide) ?_
  refine k_istore (L2 := [_, _, _, _, _, _, _, _]) eX0_ask_33 (Nat.le_of_ble_eq_true rfl) rfl ?_
  refine k_iload eX0_ask_35 rfl ?_
  refine k_if_eqN 75 eX0_ask_37 (by decide) (by omega) (fun c_37 => by exfalso; omega) (fun c_37 => ?_)
  refine k_aload_n eX0_ask_40 rfl ?_
  refine GX0_19 eX0_ask_41 rfl ?_
  refine k_aload_n eX0_ask_44 rfl ?_
  refine GX0_22 eX0_ask_45 rfl ?_
  refine k_topi (nI n) hran ?_
  refine k_iload eX0_ask_48 rfl ?_
  refine cN0 (M' := MX11_write) eX0_ask_50 mX0_25 wX11_write sX11_write rfl (pX11_writeN (j := n) (v := nI 11) (ar6 _) (by omega) (by decide) (as6 _ _)) (by decide) (Nat.le_of_ble_eq_true rfl) ?_
  refine k_aload_n eX0_ask_53 rfl ?_
  refine k_dup eX0_ask_54 rfl ?_
  refine GX0_22 eX0_ask_55 rfl ?_
  refine k_topi (nI n) hran ?_
  refine k_iconst (v := nI 1) eX0_ask_58 (by decide) ?_
  refine k_iaddN eX0_ask_59 ?_
  refine PX0_22 eX0_ask_60 rfl ?_
  refine k_heap (h2 := hp (trc1 S n 11)) rfl ?_
  refine k_aload_n eX0_ask_63 rfl ?_
  refine k_iload eX0_ask_64 rfl ?_
  refine k_iload_n eX0_ask_66 rfl ?_
  refine k_iload eX0_ask_67 rfl ?_
  refine k_iconst (v := nI 1) eX0_ask_69 (by decide) ?_
  refine k_iaddN eX0_ask_70 ?_
  refine cV1 (M' := MX0_run) eX0_ask_71 mX0_68 wX0_run vX0_run ⟨_, _, _, rfl, rfl, rfl⟩ rfl (pX0_run_0_11 (S := (trc1 S n 11)) (n := n + 1) (dep := (dep + 1)) (nb := nb) (t1K hK) (t1N hnb) rfl (by omega) (by omega) (x)) (by decide) (Nat.le_of_ble_eq_true rfl) ?_
  refine k_ireturn eX0_ask_74 rfl rfl ?_
  exact ⟨rfl, rfl⟩
set_option maxHeartbeats 400000 in
theorem pX0_own_0_1 {S : k_S} {n dep : Nat} {nb : Int32} (hK : S.1 205 = nI 0) (hnb : S.1 204 = nb) (hran : S.1 203 = nI n) (hn : n + 2 ≤ 24) (hdep : dep + 2 ≤ 40) (x : Int32) : Sp 5 0 0 MX0_own [.ref 4, .int (nI 1), .int (x), .int (nI dep)] (hp S) (Rt (some (.int (((x + nb) * nI 2)))) (hp (trc S n [10, 1]))) := by
  refine Sp_of (by decide +kernel) (Nat.le_of_ble_eq_true rfl) ?_
  show AW none MX0_own 5 0 0 0 [.ref 4, .int (nI 1), .int (x), .int (nI dep)] [] (hp S) _
  refine k_aload_n eX0_own_0 rfl ?_
  refine k_aload_n eX0_own_1 rfl ?_
  refine GX0_51 eX0_own_2 rfl ?_
  refine k_topi (nI 0) hK ?_
  refine k_iload_n eX0_own_5 rfl ?_
  refine k_iload_n eX0_own_6 rfl ?_
  refine k_iload_n eX0_own_7 rfl ?_
  refine cV1 (M' := MX0_ask) eX0_own_8 mX0_54 wX0_ask vX0_ask ⟨_, _, _, rfl, rfl, rfl⟩ rfl (pX0_ask_0_0_1 (S := S) (n := n) (dep := dep) (nb := nb) hK hnb hran (by omega) (by omega) (x)) (by decide) (Nat.le_of_ble_eq_true rfl) ?_
  refine k_ireturn eX0_own_11 rfl rfl ?_
  exact ⟨rfl, rfl⟩
set_option maxHeartbeats 400000 in
theorem pX0_own_0_2 {S : k_S} {n dep : Nat} {nb : Int32} (hK : S.1 205 = nI 0) (hnb : S.1 204 = nb) (hran : S.1 203 = nI n) (hn : n + 1 ≤ 24) (hdep : dep + 1 ≤ 40) (x : Int32) : Sp 2 0 0 MX0_own [.ref 4, .int (nI 2), .int (x), .int (nI dep)] (hp S) (Rt (some (.int ((x ^^^ nb)))) (hp (trc S n [11]))) := by
  refine Sp_of (by decide +kernel) (Nat.le_of_ble_eq_true rfl) ?_
  show AW none MX0_own 2 0 0 0 [.ref 4, .int (nI 2), .int (x), .int (nI dep)] [] (hp S) _
  refine k_aload_n eX0_own_0 rfl ?_
  refine k_aload_n eX0_own_1 rfl ?_
  refine GX0_51 eX0_own_2 rfl ?_
  refine k_topi (nI 0) hK ?_
  refine k_iload_n eX0_own_5 rfl ?_
  refine k_iload_n eX0_own_6 rfl ?_
  refine k_iload_n eX0_own_7 rfl ?_
  refine cV1 (M' := MX0_ask) eX0_own_8 mX0_54 wX0_ask vX0_ask ⟨_, _, _, rfl, rfl, rfl⟩ rfl (pX0_ask_0_0_2 (S := S) (n := n) (dep := dep) (nb := nb) hK hnb hran (by omega) (by omega) (x)) (by decide) (Nat.le_of_ble_eq_true rfl) ?_
  refine k_ireturn eX0_own_11 rfl rfl ?_
  exact ⟨rfl, rfl⟩
set_option maxHeartbeats 400000 in
theorem pX0_run_0_2 {S : k_S} {n dep : Nat} {nb : Int32} (hK : S.1 205 = nI 0) (hnb : S.1 204 = nb) (hran : S.1 203 = nI n) (hn : n + 3 ≤ 24) (hdep : dep + 2 ≤ 40) (x : Int32) : Sp 6 0 0 MX0_run [.ref 4, .int (nI 2), .int (x), .int (nI dep)] (hp S) (Rt (some (.int ((((x + nb) * nI 2) - ((nI 1) ^^^ nb))))) (hp (trc S n [10, 1, 11]))) := by
  refine Sp_of (by decide +kernel) (Nat.le_of_ble_eq_true rfl) ?_
  show AW none MX0_run 6 0 0 0 [.ref 4, .int (nI 2), .int (x), .int (nI dep)] [] (hp S) _
  refine k_iload_n eX0_run_0 rfl ?_
  refine k_look 123 eX0_run_1 (by decide) (off := 122) (by decide) (by decide) ?_
  refine k_aload_n eX0_run_123 rfl ?_
  refine k_iconst (v := nI 1) eX0_run_124 (by decide) ?_
  refine k_iload_n eX0_run_125 rfl ?_
  refine k_iload_n eX0_run_126 rfl ?_
  refine cV1 (M' := MX0_own) eX0_run_127 mX0_72 wX0_own vX0_own ⟨_, _, _, rfl, rfl, rfl⟩ rfl (pX0_own_0_1 (S := S) (n := n) (dep := dep) (nb := nb) hK hnb hran (by omega) (by omega) (x)) (by decide) (Nat.le_of_ble_eq_true rfl) ?_
  refine k_aload_n eX0_run_130 rfl ?_
  refine k_iconst (v := nI 2) eX0_run_131 (by decide) ?_
  refine k_iconst (v := nI 1) eX0_run_132 (by decide) ?_
  refine k_iload_n eX0_run_133 rfl ?_
  refine cV1 (M' := MX0_own) eX0_run_134 mX0_72 wX0_own vX0_own ⟨_, _, _, rfl, rfl, rfl⟩ rfl (pX0_own_0_2 (S := (trc S (n) [10, 1])) (n := n + 2) (dep := dep) (nb := nb) (tK hK) (tN hnb) (tR hran) (by omega) (by omega) (nI 1)) (by decide) (Nat.le_of_ble_eq_true rfl) ?_
  refine k_isub eX0_run_137 ?_
  refine k_ireturn eX0_run_138 rfl rfl ?_
  exact ⟨rfl, congrArg hp (trc_app [10, 1] S n [11]).symm⟩
set_option maxHeartbeats 400000 in
theorem pX0_ask_0_0_3 {S : k_S} {n dep : Nat} {nb : Int32} (hK : S.1 205 = nI 0) (hnb : S.1 204 = nb) (hran : S.1 203 = nI n) (hn : n + 4 ≤ 24) (hdep : dep + 3 ≤ 40) (x : Int32) : Sp 7 0 0 MX0_ask [.ref 4, .int (nI 0), .int (nI 3), .int (x), .int (nI dep)] (hp S) (Rt (some (.int ((((x + nb) * nI 2) - ((nI 1) ^^^ nb))))) (hp (trc S n [2, 10, 1, 11]))) := by
  refine Sp_of (by decide +kernel) (Nat.le_of_ble_eq_true rfl) ?_
  show AW none MX0_ask 7 0 0 0 [.ref 4, .int (nI 0), .int (nI 3), .int (x), .int (nI dep), .null, .null, .null] [] (hp S) _
  refine k_iload eX0_ask_0 rfl ?_
  refine k_bipush (v := nI 40) eX0_ask_2 (by decide) ?_
  refine k_icmp_leN 9 eX0_ask_4 (by decide) (by omega) (by omega) (fun c_4 => ?_) (fun c_4 => by exfalso; omega)
  refine k_iload_n eX0_ask_9 rfl ?_
  refine k_istore (L2 := [_, _, _, _, _, _, _, _]) eX0_ask_10 (Nat.le_of_ble_eq_true rfl) rfl ?_
  refine k_iconst (v := nI 0) eX0_ask_12 (by decide) ?_
  refine k_istore (L2 := [_, _, _, _, _, _, _, _]) eX0_ask_13 (Nat.le_of_ble_eq_true rfl) rfl ?_
  refine k_iload eX0_ask_15 rfl ?_
  refine k_bipush (v := nI 8) eX0_ask_17 (by decide) ?_
  refine k_icmp_gtN 88 eX0_ask_19 (by decide) (by omega) (by omega) (fun c_19 => by exfalso; omega) (fun c_19 => ?_)
  refine k_iload eX0_ask_22 rfl ?_
  refine k_if_ltN 88 eX0_ask_24 (by decide) (by omega) ?_
  refine k_iload eX0_ask_27 rfl ?_
  refine k_iload_n eX0_ask_29 rfl ?_
  refine cS1 (M' := MX0_bodyOf) eX0_ask_30 mX0_64 wX0_bodyOf sX0_bodyOf rfl (pX0_bodyOf (S := S) (k := 0) (s := 3) (by decide) (by decide)) (by decide) (Nat.le_of_ble_eq_true rfl) ?_
  refine k_topi (nI 0) (by decide) ?_
  refine k_istore (L2 := [_, _, _, _, _, _, _, _]) eX0_ask_33 (Nat.le_of_ble_eq_true rfl) rfl ?_
  refine k_iload eX0_ask_35 rfl ?_
  refine k_if_eqN 75 eX0_ask_37 (by decide) (by omega) (fun c_37 => ?_) (fun c_37 => by exfalso; omega)
  refine k_iload eX0_ask_75 rfl ?_
  refine cS1 (M' := MX0_above) eX0_ask_77 mX0_33 wX0_above sX0_above rfl (pX0_above (S := S) (k := 0) (by decide)) (by decide) (Nat.le_of_ble_eq_true rfl) ?_
  refine k_topi (nI 8) (by decide) ?_
  refine k_istore (L2 := [_, _, _, _, _, _, _, _]) eX0_ask_80 (Nat.le_of_ble_eq_true rfl) rfl ?_
  refine k_iincN (g := 1) (a := 0) (L2 := [_, _, _, _, _, _, _, _]) eX0_ask_82 (Nat.le_of_ble_eq_true rfl) rfl rfl ?_
  refine k_goto 15 eX0_ask_85 (by decide) ?_
  refine k_iload eX0_ask_15 rfl ?_
  refine k_bipush (v := nI 8) eX0_ask_17 (by decide) ?_
  refine k_icmp_gtN 88 eX0_ask_19 (by decide) (by omega) (by omega) (fun c_19 => by exfalso; omega) (fun c_19 => ?_)
  refine k_iload eX0_ask_22 rfl ?_
  refine k_if_ltN 88 eX0_ask_24 (by decide) (by omega) ?_
  refine k_iload eX0_ask_27 rfl ?_
  refine k_iload_n eX0_ask_29 rfl ?_
  refine cS1 (M' := MX0_bodyOf) eX0_ask_30 mX0_64 wX0_bodyOf sX0_bodyOf rfl (pX0_bodyOf (S := S) (k := 8) (s := 3) (by decide) (by decide)) (by decide) (Nat.le_of_ble_eq_true rfl) ?_
  refine k_topi (nI 2) (by decide) ?_
  refine k_istore (L2 := [_, _, _, _, _, _, _, _]) eX0_ask_33 (Nat.le_of_ble_eq_true rfl) rfl ?_
  refine k_iload eX0_ask_35 rfl ?_
  refine k_if_eqN 75 eX0_ask_37 (by decide) (by omega) (fun c_37 => by exfalso; omega) (fun c_37 => ?_)
  refine k_aload_n eX0_ask_40 rfl ?_
  refine GX0_19 eX0_ask_41 rfl ?_
  refine k_aload_n eX0_ask_44 rfl ?_
  refine GX0_22 eX0_ask_45 rfl ?_
  refine k_topi (nI n) hran ?_
  refine k_iload eX0_ask_48 rfl ?_
  refine cN0 (M' := MX11_write) eX0_ask_50 mX0_25 wX11_write sX11_write rfl (pX11_writeN (j := n) (v := nI 2) (ar6 _) (by omega) (by decide) (as6 _ _)) (by decide) (Nat.le_of_ble_eq_true rfl) ?_
  refine k_aload_n eX0_ask_53 rfl ?_
  refine k_dup eX0_ask_54 rfl ?_
  refine GX0_22 eX0_ask_55 rfl ?_
  refine k_topi (nI n) hran ?_
  refine k_iconst (v := nI 1) eX0_ask_58 (by decide) ?_
  refine k_iaddN eX0_ask_59 ?_
  refine PX0_22 eX0_ask_60 rfl ?_
  refine k_heap (h2 := hp (trc1 S n 2)) rfl ?_
  refine k_aload_n eX0_ask_63 rfl ?_
  refine k_iload eX0_ask_64 rfl ?_
  refine k_iload_n eX0_ask_66 rfl ?_
  refine k_iload eX0_ask_67 rfl ?_
  refine k_iconst (v := nI 1) eX0_ask_69 (by decide) ?_
  refine k_iaddN eX0_ask_70 ?_
  refine cV1 (M' := MX0_run) eX0_ask_71 mX0_68 wX0_run vX0_run ⟨_, _, _, rfl, rfl, rfl⟩ rfl (pX0_run_0_2 (S := (trc1 S n 2)) (n := n + 1) (dep := (dep + 1)) (nb := nb) (t1K hK) (t1N hnb) rfl (by omega) (by omega) (x)) (by decide) (Nat.le_of_ble_eq_true rfl) ?_
  refine k_ireturn eX0_ask_74 rfl rfl ?_
  exact ⟨rfl, congrArg hp (trc_cons S n 2 [10, 1, 11]).symm⟩
set_option maxHeartbeats 400000 in
theorem pX0_run_1_1 {S : k_S} {n dep : Nat} {nb : Int32} (hK : S.1 205 = nI 1) (hnb : S.1 204 = nb) (hran : S.1 203 = nI n) (hn : n + 0 ≤ 24) (hdep : dep + 0 ≤ 40) (x : Int32) : Sp 0 0 0 MX0_run [.ref 4, .int (nI 1), .int (x), .int (nI dep)] (hp S) (Rt (some (.int ((x + nb)))) (hp S)) := by
  refine Sp_of (by decide +kernel) (Nat.le_of_ble_eq_true rfl) ?_
  show AW none MX0_run 0 0 0 0 [.ref 4, .int (nI 1), .int (x), .int (nI dep)] [] (hp S) _
  refine k_iload_n eX0_run_0 rfl ?_
  refine k_look 116 eX0_run_1 (by decide) (off := 115) (by decide) (by decide) ?_
  refine k_iload_n eX0_run_116 rfl ?_
  refine k_aload_n eX0_run_117 rfl ?_
  refine GX0_45 eX0_run_118 rfl ?_
  refine k_topi (nb) hnb ?_
  refine k_iadd eX0_run_121 ?_
  refine k_ireturn eX0_run_122 rfl rfl ?_
  exact ⟨rfl, rfl⟩
set_option maxHeartbeats 400000 in
theorem pX0_ask_1_0_0 {S : k_S} {n dep : Nat} {nb : Int32} (hK : S.1 205 = nI 1) (hnb : S.1 204 = nb) (hran : S.1 203 = nI n) (hn : n + 1 ≤ 24) (hdep : dep + 1 ≤ 40) (x : Int32) : Sp 1 0 0 MX0_ask [.ref 4, .int (nI 0), .int (nI 0), .int (x), .int (nI dep)] (hp S) (Rt (some (.int ((x + nb)))) (hp (trc S n [1]))) := by
  refine Sp_of (by decide +kernel) (Nat.le_of_ble_eq_true rfl) ?_
  show AW none MX0_ask 1 0 0 0 [.ref 4, .int (nI 0), .int (nI 0), .int (x), .int (nI dep), .null, .null, .null] [] (hp S) _
  refine k_iload eX0_ask_0 rfl ?_
  refine k_bipush (v := nI 40) eX0_ask_2 (by decide) ?_
  refine k_icmp_leN 9 eX0_ask_4 (by decide) (by omega) (by omega) (fun c_4 => ?_) (fun c_4 => by exfalso; omega)
  refine k_iload_n eX0_ask_9 rfl ?_
  refine k_istore (L2 := [_, _, _, _, _, _, _, _]) eX0_ask_10 (Nat.le_of_ble_eq_true rfl) rfl ?_
  refine k_iconst (v := nI 0) eX0_ask_12 (by decide) ?_
  refine k_istore (L2 := [_, _, _, _, _, _, _, _]) eX0_ask_13 (Nat.le_of_ble_eq_true rfl) rfl ?_
  refine k_iload eX0_ask_15 rfl ?_
  refine k_bipush (v := nI 8) eX0_ask_17 (by decide) ?_
  refine k_icmp_gtN 88 eX0_ask_19 (by decide) (by omega) (by omega) (fun c_19 => by exfalso; omega) (fun c_19 => ?_)
  refine k_iload eX0_ask_22 rfl ?_
  refine k_if_ltN 88 eX0_ask_24 (by decide) (by omega) ?_
  refine k_iload eX0_ask_27 rfl ?_
  refine k_iload_n eX0_ask_29 rfl ?_
  refine cS1 (M' := MX0_bodyOf) eX0_ask_30 mX0_64 wX0_bodyOf sX0_bodyOf rfl (pX0_bodyOf (S := S) (k := 0) (s := 0) (by decide) (by decide)) (by decide) (Nat.le_of_ble_eq_true rfl) ?_
  refine k_topi (nI 0) (by decide) ?_
  refine k_istore (L2 := [_, _, _, _, _, _, _, _]) eX0_ask_33 (Nat.le_of_ble_eq_true rfl) rfl ?_
  refine k_iload eX0_ask_35 rfl ?_
  refine k_if_eqN 75 eX0_ask_37 (by decide) (by omega) (fun c_37 => ?_) (fun c_37 => by exfalso; omega)
  refine k_iload eX0_ask_75 rfl ?_
  refine cS1 (M' := MX0_above) eX0_ask_77 mX0_33 wX0_above sX0_above rfl (pX0_above (S := S) (k := 0) (by decide)) (by decide) (Nat.le_of_ble_eq_true rfl) ?_
  refine k_topi (nI 8) (by decide) ?_
  refine k_istore (L2 := [_, _, _, _, _, _, _, _]) eX0_ask_80 (Nat.le_of_ble_eq_true rfl) rfl ?_
  refine k_iincN (g := 1) (a := 0) (L2 := [_, _, _, _, _, _, _, _]) eX0_ask_82 (Nat.le_of_ble_eq_true rfl) rfl rfl ?_
  refine k_goto 15 eX0_ask_85 (by decide) ?_
  refine k_iload eX0_ask_15 rfl ?_
  refine k_bipush (v := nI 8) eX0_ask_17 (by decide) ?_
  refine k_icmp_gtN 88 eX0_ask_19 (by decide) (by omega) (by omega) (fun c_19 => by exfalso; omega) (fun c_19 => ?_)
  refine k_iload eX0_ask_22 rfl ?_
  refine k_if_ltN 88 eX0_ask_24 (by decide) (by omega) ?_
  refine k_iload eX0_ask_27 rfl ?_
  refine k_iload_n eX0_ask_29 rfl ?_
  refine cS1 (M' := MX0_bodyOf) eX0_ask_30 mX0_64 wX0_bodyOf sX0_bodyOf rfl (pX0_bodyOf (S := S) (k := 8) (s := 0) (by decide) (by decide)) (by decide) (Nat.le_of_ble_eq_true rfl) ?_
  refine k_topi (nI 1) (by decide) ?_
  refine k_istore (L2 := [_, _, _, _, _, _, _, _]) eX0_ask_33 (Nat.le_of_ble_eq_true rfl) rfl ?_
  refine k_iload eX0_ask_35 rfl ?_
  refine k_if_eqN 75 eX0_ask_37 (by decide) (by omega) (fun c_37 => by exfalso; omega) (fun c_37 => ?_)
  refine k_aload_n eX0_ask_40 rfl ?_
  refine GX0_19 eX0_ask_41 rfl ?_
  refine k_aload_n eX0_ask_44 rfl ?_
  refine GX0_22 eX0_ask_45 rfl ?_
  refine k_topi (nI n) hran ?_
  refine k_iload eX0_ask_48 rfl ?_
  refine cN0 (M' := MX11_write) eX0_ask_50 mX0_25 wX11_write sX11_write rfl (pX11_writeN (j := n) (v := nI 1) (ar6 _) (by omega) (by decide) (as6 _ _)) (by decide) (Nat.le_of_ble_eq_true rfl) ?_
  refine k_aload_n eX0_ask_53 rfl ?_
  refine k_dup eX0_ask_54 rfl ?_
  refine GX0_22 eX0_ask_55 rfl ?_
  refine k_topi (nI n) hran ?_
  refine k_iconst (v := nI 1) eX0_ask_58 (by decide) ?_
  refine k_iaddN eX0_ask_59 ?_
  refine PX0_22 eX0_ask_60 rfl ?_
  refine k_heap (h2 := hp (trc1 S n 1)) rfl ?_
  refine k_aload_n eX0_ask_63 rfl ?_
  refine k_iload eX0_ask_64 rfl ?_
  refine k_iload_n eX0_ask_66 rfl ?_
  refine k_iload eX0_ask_67 rfl ?_
  refine k_iconst (v := nI 1) eX0_ask_69 (by decide) ?_
  refine k_iaddN eX0_ask_70 ?_
  refine cV1 (M' := MX0_run) eX0_ask_71 mX0_68 wX0_run vX0_run ⟨_, _, _, rfl, rfl, rfl⟩ rfl (pX0_run_1_1 (S := (trc1 S n 1)) (n := n + 1) (dep := (dep + 1)) (nb := nb) (t1K hK) (t1N hnb) rfl (by omega) (by omega) (x)) (by decide) (Nat.le_of_ble_eq_true rfl) ?_
  refine k_ireturn eX0_ask_74 rfl rfl ?_
  exact ⟨rfl, rfl⟩
set_option maxHeartbeats 400000 in
theorem pX0_run_1_20 {S : k_S} {n dep : Nat} {nb : Int32} (hK : S.1 205 = nI 1) (hnb : S.1 204 = nb) (hran : S.1 203 = nI n) (hn : n + 1 ≤ 24) (hdep : dep + 1 ≤ 40) (x : Int32) : Sp 2 0 0 MX0_run [.ref 4, .int (nI 20), .int (x), .int (nI dep)] (hp S) (Rt (some (.int (((x + nb) + nI 3)))) (hp (trc S n [1]))) := by
  refine Sp_of (by decide +kernel) (Nat.le_of_ble_eq_true rfl) ?_
  show AW none MX0_run 2 0 0 0 [.ref 4, .int (nI 20), .int (x), .int (nI dep)] [] (hp S) _
  refine k_iload_n eX0_run_0 rfl ?_
  refine k_look 156 eX0_run_1 (by decide) (off := 155) (by decide) (by decide) ?_
  refine k_aload_n eX0_run_156 rfl ?_
  refine k_iconst (v := nI 1) eX0_run_157 (by decide) ?_
  refine cS1 (M' := MX0_above) eX0_run_158 mX0_33 wX0_above sX0_above rfl (pX0_above (S := S) (k := 1) (by decide)) (by decide) (Nat.le_of_ble_eq_true rfl) ?_
  refine k_topi (nI 0) (by decide) ?_
  refine k_iconst (v := nI 0) eX0_run_161 (by decide) ?_
  refine k_iload_n eX0_run_162 rfl ?_
  refine k_iload_n eX0_run_163 rfl ?_
  refine cV1 (M' := MX0_ask) eX0_run_164 mX0_54 wX0_ask vX0_ask ⟨_, _, _, rfl, rfl, rfl⟩ rfl (pX0_ask_1_0_0 (S := S) (n := n) (dep := dep) (nb := nb) hK hnb hran (by omega) (by omega) (x)) (by decide) (Nat.le_of_ble_eq_true rfl) ?_
  refine k_iconst (v := nI 3) eX0_run_167 (by decide) ?_
  refine k_iadd eX0_run_168 ?_
  refine k_ireturn eX0_run_169 rfl rfl ?_
  exact ⟨rfl, rfl⟩
set_option maxHeartbeats 400000 in
theorem pX0_ask_1_1_0 {S : k_S} {n dep : Nat} {nb : Int32} (hK : S.1 205 = nI 1) (hnb : S.1 204 = nb) (hran : S.1 203 = nI n) (hn : n + 2 ≤ 24) (hdep : dep + 2 ≤ 40) (x : Int32) : Sp 3 0 0 MX0_ask [.ref 4, .int (nI 1), .int (nI 0), .int (x), .int (nI dep)] (hp S) (Rt (some (.int (((x + nb) + nI 3)))) (hp (trc S n [20, 1]))) := by
  refine Sp_of (by decide +kernel) (Nat.le_of_ble_eq_true rfl) ?_
  show AW none MX0_ask 3 0 0 0 [.ref 4, .int (nI 1), .int (nI 0), .int (x), .int (nI dep), .null, .null, .null] [] (hp S) _
  refine k_iload eX0_ask_0 rfl ?_
  refine k_bipush (v := nI 40) eX0_ask_2 (by decide) ?_
  refine k_icmp_leN 9 eX0_ask_4 (by decide) (by omega) (by omega) (fun c_4 => ?_) (fun c_4 => by exfalso; omega)
  refine k_iload_n eX0_ask_9 rfl ?_
  refine k_istore (L2 := [_, _, _, _, _, _, _, _]) eX0_ask_10 (Nat.le_of_ble_eq_true rfl) rfl ?_
  refine k_iconst (v := nI 0) eX0_ask_12 (by decide) ?_
  refine k_istore (L2 := [_, _, _, _, _, _, _, _]) eX0_ask_13 (Nat.le_of_ble_eq_true rfl) rfl ?_
  refine k_iload eX0_ask_15 rfl ?_
  refine k_bipush (v := nI 8) eX0_ask_17 (by decide) ?_
  refine k_icmp_gtN 88 eX0_ask_19 (by decide) (by omega) (by omega) (fun c_19 => by exfalso; omega) (fun c_19 => ?_)
  refine k_iload eX0_ask_22 rfl ?_
  refine k_if_ltN 88 eX0_ask_24 (by decide) (by omega) ?_
  refine k_iload eX0_ask_27 rfl ?_
  refine k_iload_n eX0_ask_29 rfl ?_
  refine cS1 (M' := MX0_bodyOf) eX0_ask_30 mX0_64 wX0_bodyOf sX0_bodyOf rfl (pX0_bodyOf (S := S) (k := 1) (s := 0) (by decide) (by decide)) (by decide) (Nat.le_of_ble_eq_true rfl) ?_
  refine k_topi (nI 20) (by decide) ?_
  refine k_istore (L2 := [_, _, _, _, _, _, _, _]) eX0_ask_33 (Nat.le_of_ble_eq_true rfl) rfl ?_
  refine k_iload eX0_ask_35 rfl ?_
  refine k_if_eqN 75 eX0_ask_37 (by decide) (by omega) (fun c_37 => by exfalso; omega) (fun c_37 => ?_)
  refine k_aload_n eX0_ask_40 rfl ?_
  refine GX0_19 eX0_ask_41 rfl ?_
  refine k_aload_n eX0_ask_44 rfl ?_
  refine GX0_22 eX0_ask_45 rfl ?_
  refine k_topi (nI n) hran ?_
  refine k_iload eX0_ask_48 rfl ?_
  refine cN0 (M' := MX11_write) eX0_ask_50 mX0_25 wX11_write sX11_write rfl (pX11_writeN (j := n) (v := nI 20) (ar6 _) (by omega) (by decide) (as6 _ _)) (by decide) (Nat.le_of_ble_eq_true rfl) ?_
  refine k_aload_n eX0_ask_53 rfl ?_
  refine k_dup eX0_ask_54 rfl ?_
  refine GX0_22 eX0_ask_55 rfl ?_
  refine k_topi (nI n) hran ?_
  refine k_iconst (v := nI 1) eX0_ask_58 (by decide) ?_
  refine k_iaddN eX0_ask_59 ?_
  refine PX0_22 eX0_ask_60 rfl ?_
  refine k_heap (h2 := hp (trc1 S n 20)) rfl ?_
  refine k_aload_n eX0_ask_63 rfl ?_
  refine k_iload eX0_ask_64 rfl ?_
  refine k_iload_n eX0_ask_66 rfl ?_
  refine k_iload eX0_ask_67 rfl ?_
  refine k_iconst (v := nI 1) eX0_ask_69 (by decide) ?_
  refine k_iaddN eX0_ask_70 ?_
  refine cV1 (M' := MX0_run) eX0_ask_71 mX0_68 wX0_run vX0_run ⟨_, _, _, rfl, rfl, rfl⟩ rfl (pX0_run_1_20 (S := (trc1 S n 20)) (n := n + 1) (dep := (dep + 1)) (nb := nb) (t1K hK) (t1N hnb) rfl (by omega) (by omega) (x)) (by decide) (Nat.le_of_ble_eq_true rfl) ?_
  refine k_ireturn eX0_ask_74 rfl rfl ?_
  exact ⟨rfl, congrArg hp (trc_cons S n 20 [1]).symm⟩
set_option maxHeartbeats 400000 in
theorem pX0_own_1_0 {S : k_S} {n dep : Nat} {nb : Int32} (hK : S.1 205 = nI 1) (hnb : S.1 204 = nb) (hran : S.1 203 = nI n) (hn : n + 2 ≤ 24) (hdep : dep + 2 ≤ 40) (x : Int32) : Sp 4 0 0 MX0_own [.ref 4, .int (nI 0), .int (x), .int (nI dep)] (hp S) (Rt (some (.int (((x + nb) + nI 3)))) (hp (trc S n [20, 1]))) := by
  refine Sp_of (by decide +kernel) (Nat.le_of_ble_eq_true rfl) ?_
  show AW none MX0_own 4 0 0 0 [.ref 4, .int (nI 0), .int (x), .int (nI dep)] [] (hp S) _
  refine k_aload_n eX0_own_0 rfl ?_
  refine k_aload_n eX0_own_1 rfl ?_
  refine GX0_51 eX0_own_2 rfl ?_
  refine k_topi (nI 1) hK ?_
  refine k_iload_n eX0_own_5 rfl ?_
  refine k_iload_n eX0_own_6 rfl ?_
  refine k_iload_n eX0_own_7 rfl ?_
  refine cV1 (M' := MX0_ask) eX0_own_8 mX0_54 wX0_ask vX0_ask ⟨_, _, _, rfl, rfl, rfl⟩ rfl (pX0_ask_1_1_0 (S := S) (n := n) (dep := dep) (nb := nb) hK hnb hran (by omega) (by omega) (x)) (by decide) (Nat.le_of_ble_eq_true rfl) ?_
  refine k_ireturn eX0_own_11 rfl rfl ?_
  exact ⟨rfl, rfl⟩
set_option maxHeartbeats 400000 in
theorem pX0_run_1_10 {S : k_S} {n dep : Nat} {nb : Int32} (hK : S.1 205 = nI 1) (hnb : S.1 204 = nb) (hran : S.1 203 = nI n) (hn : n + 2 ≤ 24) (hdep : dep + 2 ≤ 40) (x : Int32) : Sp 5 0 0 MX0_run [.ref 4, .int (nI 10), .int (x), .int (nI dep)] (hp S) (Rt (some (.int ((((x + nb) + nI 3) * nI 2)))) (hp (trc S n [20, 1]))) := by
  refine Sp_of (by decide +kernel) (Nat.le_of_ble_eq_true rfl) ?_
  show AW none MX0_run 5 0 0 0 [.ref 4, .int (nI 10), .int (x), .int (nI dep)] [] (hp S) _
  refine k_iload_n eX0_run_0 rfl ?_
  refine k_look 139 eX0_run_1 (by decide) (off := 138) (by decide) (by decide) ?_
  refine k_aload_n eX0_run_139 rfl ?_
  refine k_iconst (v := nI 0) eX0_run_140 (by decide) ?_
  refine k_iload_n eX0_run_141 rfl ?_
  refine k_iload_n eX0_run_142 rfl ?_
  refine cV1 (M' := MX0_own) eX0_run_143 mX0_72 wX0_own vX0_own ⟨_, _, _, rfl, rfl, rfl⟩ rfl (pX0_own_1_0 (S := S) (n := n) (dep := dep) (nb := nb) hK hnb hran (by omega) (by omega) (x)) (by decide) (Nat.le_of_ble_eq_true rfl) ?_
  refine k_iconst (v := nI 2) eX0_run_146 (by decide) ?_
  refine k_imul eX0_run_147 ?_
  refine k_ireturn eX0_run_148 rfl rfl ?_
  exact ⟨rfl, rfl⟩
set_option maxHeartbeats 400000 in
theorem pX0_ask_1_1_1 {S : k_S} {n dep : Nat} {nb : Int32} (hK : S.1 205 = nI 1) (hnb : S.1 204 = nb) (hran : S.1 203 = nI n) (hn : n + 3 ≤ 24) (hdep : dep + 3 ≤ 40) (x : Int32) : Sp 6 0 0 MX0_ask [.ref 4, .int (nI 1), .int (nI 1), .int (x), .int (nI dep)] (hp S) (Rt (some (.int ((((x + nb) + nI 3) * nI 2)))) (hp (trc S n [10, 20, 1]))) := by
  refine Sp_of (by decide +kernel) (Nat.le_of_ble_eq_true rfl) ?_
  show AW none MX0_ask 6 0 0 0 [.ref 4, .int (nI 1), .int (nI 1), .int (x), .int (nI dep), .null, .null, .null] [] (hp S) _
  refine k_iload eX0_ask_0 rfl ?_
  refine k_bipush (v := nI 40) eX0_ask_2 (by decide) ?_
  refine k_icmp_leN 9 eX0_ask_4 (by decide) (by omega) (by omega) (fun c_4 => ?_) (fun c_4 => by exfalso; omega)
  refine k_iload_n eX0_ask_9 rfl ?_
  refine k_istore (L2 := [_, _, _, _, _, _, _, _]) eX0_ask_10 (Nat.le_of_ble_eq_true rfl) rfl ?_
  refine k_iconst (v := nI 0) eX0_ask_12 (by decide) ?_
  refine k_istore (L2 := [_, _, _, _, _, _, _, _]) eX0_ask_13 (Nat.le_of_ble_eq_true rfl) rfl ?_
  refine k_iload eX0_ask_15 rfl ?_
  refine k_bipush (v := nI 8) eX0_ask_17 (by decide) ?_
  refine k_icmp_gtN 88 eX0_ask_19 (by decide) (by omega) (by omega) (fun c_19 => by exfalso; omega) (fun c_19 => ?_)
  refine k_iload eX0_ask_22 rfl ?_
  refine k_if_ltN 88 eX0_ask_24 (by decide) (by omega) ?_
  refine k_iload eX0_ask_27 rfl ?_
  refine k_iload_n eX0_ask_29 rfl ?_
  refine cS1 (M' := MX0_bodyOf) eX0_ask_30 mX0_64 wX0_bodyOf sX0_bodyOf rfl (pX0_bodyOf (S := S) (k := 1) (s := 1) (by decide) (by decide)) (by decide) (Nat.le_of_ble_eq_true rfl) ?_
  refine k_topi (nI 0) (by decide) ?_
  refine k_istore (L2 := [_, _, _, _, _, _, _, _]) eX0_ask_33 (Nat.le_of_ble_eq_true rfl) rfl ?_
  refine k_iload eX0_ask_35 rfl ?_
  refine k_if_eqN 75 eX0_ask_37 (by decide) (by omega) (fun c_37 => ?_) (fun c_37 => by exfalso; omega)
  refine k_iload eX0_ask_75 rfl ?_
  refine cS1 (M' := MX0_above) eX0_ask_77 mX0_33 wX0_above sX0_above rfl (pX0_above (S := S) (k := 1) (by decide)) (by decide) (Nat.le_of_ble_eq_true rfl) ?_
  refine k_topi (nI 0) (by decide) ?_
  refine k_istore (L2 := [_, _, _, _, _, _, _, _]) eX0_ask_80 (Nat.le_of_ble_eq_true rfl) rfl ?_
  refine k_iincN (g := 1) (a := 0) (L2 := [_, _, _, _, _, _, _, _]) eX0_ask_82 (Nat.le_of_ble_eq_true rfl) rfl rfl ?_
  refine k_goto 15 eX0_ask_85 (by decide) ?_
  refine k_iload eX0_ask_15 rfl ?_
  refine k_bipush (v := nI 8) eX0_ask_17 (by decide) ?_
  refine k_icmp_gtN 88 eX0_ask_19 (by decide) (by omega) (by omega) (fun c_19 => by exfalso; omega) (fun c_19 => ?_)
  refine k_iload eX0_ask_22 rfl ?_
  refine k_if_ltN 88 eX0_ask_24 (by decide) (by omega) ?_
  refine k_iload eX0_ask_27 rfl ?_
  refine k_iload_n eX0_ask_29 rfl ?_
  refine cS1 (M' := MX0_bodyOf) eX0_ask_30 mX0_64 wX0_bodyOf sX0_bodyOf rfl (pX0_bodyOf (S := S) (k := 0) (s := 1) (by decide) (by decide)) (by decide) (Nat.le_of_ble_eq_true rfl) ?_
  refine k_topi (nI 10) (by decide) ?_
  refine k_istore (L2 := [_, _, _, _, _, _, _, _]) eX0_ask_33 (Nat.le_of_ble_eq_true rfl) rfl ?_
  refine k_iload eX0_ask_35 rfl ?_
  refine k_if_eqN 75 eX0_ask_37 (by decide) (by omega) (fun c_37 => by exfalso; omega) (fun c_37 => ?_)
  refine k_aload_n eX0_ask_40 rfl ?_
  refine GX0_19 eX0_ask_41 rfl ?_
  refine k_aload_n eX0_ask_44 rfl ?_
  refine GX0_22 eX0_ask_45 rfl ?_
  refine k_topi (nI n) hran ?_
  refine k_iload eX0_ask_48 rfl ?_
  refine cN0 (M' := MX11_write) eX0_ask_50 mX0_25 wX11_write sX11_write rfl (pX11_writeN (j := n) (v := nI 10) (ar6 _) (by omega) (by decide) (as6 _ _)) (by decide) (Nat.le_of_ble_eq_true rfl) ?_
  refine k_aload_n eX0_ask_53 rfl ?_
  refine k_dup eX0_ask_54 rfl ?_
  refine GX0_22 eX0_ask_55 rfl ?_
  refine k_topi (nI n) hran ?_
  refine k_iconst (v := nI 1) eX0_ask_58 (by decide) ?_
  refine k_iaddN eX0_ask_59 ?_
  refine PX0_22 eX0_ask_60 rfl ?_
  refine k_heap (h2 := hp (trc1 S n 10)) rfl ?_
  refine k_aload_n eX0_ask_63 rfl ?_
  refine k_iload eX0_ask_64 rfl ?_
  refine k_iload_n eX0_ask_66 rfl ?_
  refine k_iload eX0_ask_67 rfl ?_
  refine k_iconst (v := nI 1) eX0_ask_69 (by decide) ?_
  refine k_iaddN eX0_ask_70 ?_
  refine cV1 (M' := MX0_run) eX0_ask_71 mX0_68 wX0_run vX0_run ⟨_, _, _, rfl, rfl, rfl⟩ rfl (pX0_run_1_10 (S := (trc1 S n 10)) (n := n + 1) (dep := (dep + 1)) (nb := nb) (t1K hK) (t1N hnb) rfl (by omega) (by omega) (x)) (by decide) (Nat.le_of_ble_eq_true rfl) ?_
  refine k_ireturn eX0_ask_74 rfl rfl ?_
  exact ⟨rfl, congrArg hp (trc_cons S n 10 [20, 1]).symm⟩
set_option maxHeartbeats 400000 in
theorem pX0_run_1_11 {S : k_S} {n dep : Nat} {nb : Int32} (hK : S.1 205 = nI 1) (hnb : S.1 204 = nb) (hran : S.1 203 = nI n) (hn : n + 0 ≤ 24) (hdep : dep + 0 ≤ 40) (x : Int32) : Sp 0 0 0 MX0_run [.ref 4, .int (nI 11), .int (x), .int (nI dep)] (hp S) (Rt (some (.int ((x ^^^ nb)))) (hp S)) := by
  refine Sp_of (by decide +kernel) (Nat.le_of_ble_eq_true rfl) ?_
  show AW none MX0_run 0 0 0 0 [.ref 4, .int (nI 11), .int (x), .int (nI dep)] [] (hp S) _
  refine k_iload_n eX0_run_0 rfl ?_
  refine k_look 149 eX0_run_1 (by decide) (off := 148) (by decide) (by decide) ?_
  refine k_iload_n eX0_run_149 rfl ?_
  refine k_aload_n eX0_run_150 rfl ?_
  refine GX0_45 eX0_run_151 rfl ?_
  refine k_topi (nb) hnb ?_
  refine k_ixor eX0_run_154 ?_
  refine k_ireturn eX0_run_155 rfl rfl ?_
  exact ⟨rfl, rfl⟩
set_option maxHeartbeats 400000 in
theorem pX0_ask_1_1_2 {S : k_S} {n dep : Nat} {nb : Int32} (hK : S.1 205 = nI 1) (hnb : S.1 204 = nb) (hran : S.1 203 = nI n) (hn : n + 1 ≤ 24) (hdep : dep + 1 ≤ 40) (x : Int32) : Sp 1 0 0 MX0_ask [.ref 4, .int (nI 1), .int (nI 2), .int (x), .int (nI dep)] (hp S) (Rt (some (.int ((x ^^^ nb)))) (hp (trc S n [11]))) := by
  refine Sp_of (by decide +kernel) (Nat.le_of_ble_eq_true rfl) ?_
  show AW none MX0_ask 1 0 0 0 [.ref 4, .int (nI 1), .int (nI 2), .int (x), .int (nI dep), .null, .null, .null] [] (hp S) _
  refine k_iload eX0_ask_0 rfl ?_
  refine k_bipush (v := nI 40) eX0_ask_2 (by decide) ?_
  refine k_icmp_leN 9 eX0_ask_4 (by decide) (by omega) (by omega) (fun c_4 => ?_) (fun c_4 => by exfalso; omega)
  refine k_iload_n eX0_ask_9 rfl ?_
  refine k_istore (L2 := [_, _, _, _, _, _, _, _]) eX0_ask_10 (Nat.le_of_ble_eq_true rfl) rfl ?_
  refine k_iconst (v := nI 0) eX0_ask_12 (by decide) ?_
  refine k_istore (L2 := [_, _, _, _, _, _, _, _]) eX0_ask_13 (Nat.le_of_ble_eq_true rfl) rfl ?_
  refine k_iload eX0_ask_15 rfl ?_
  refine k_bipush (v := nI 8) eX0_ask_17 (by decide) ?_
  refine k_icmp_gtN 88 eX0_ask_19 (by decide) (by omega) (by omega) (fun c_19 => by exfalso; omega) (fun c_19 => ?_)
  refine k_iload eX0_ask_22 rfl ?_
  refine k_if_ltN 88 eX0_ask_24 (by decide) (by omega) ?_
  refine k_iload eX0_ask_27 rfl ?_
  refine k_iload_n eX0_ask_29 rfl ?_
  refine cS1 (M' := MX0_bodyOf) eX0_ask_30 mX0_64 wX0_bodyOf sX0_bodyOf rfl (pX0_bodyOf (S := S) (k := 1) (s := 2) (by decide) (by decide)) (by decide) (Nat.le_of_ble_eq_true rfl) ?_
  refine k_topi (nI 0) (by decide) ?_
  refine k_istore (L2 := [_, _, _, _, _, _, _, _]) eX0_ask_33 (Nat.le_of_ble_eq_true rfl) rfl ?_
  refine k_iload eX0_ask_35 rfl ?_
  refine k_if_eqN 75 eX0_ask_37 (by decide) (by omega) (fun c_37 => ?_) (fun c_37 => by exfalso; omega)
  refine k_iload eX0_ask_75 rfl ?_
  refine cS1 (M' := MX0_above) eX0_ask_77 mX0_33 wX0_above sX0_above rfl (pX0_above (S := S) (k := 1) (by decide)) (by decide) (Nat.le_of_ble_eq_true rfl) ?_
  refine k_topi (nI 0) (by decide) ?_
  refine k_istore (L2 := [_, _, _, _, _, _, _, _]) eX0_ask_80 (Nat.le_of_ble_eq_true rfl) rfl ?_
  refine k_iincN (g := 1) (a := 0) (L2 := [_, _, _, _, _, _, _, _]) eX0_ask_82 (Nat.le_of_ble_eq_true rfl) rfl rfl ?_
  refine k_goto 15 eX0_ask_85 (by decide) ?_
  refine k_iload eX0_ask_15 rfl ?_
  refine k_bipush (v := nI 8) eX0_ask_17 (by decide) ?_
  refine k_icmp_gtN 88 eX0_ask_19 (by decide) (by omega) (by omega) (fun c_19 => by exfalso; omega) (fun c_19 => ?_)
  refine k_iload eX0_ask_22 rfl ?_
  refine k_if_ltN 88 eX0_ask_24 (by decide) (by omega) ?_
  refine k_iload eX0_ask_27 rfl ?_
  refine k_iload_n eX0_ask_29 rfl ?_
  refine cS1 (M' := MX0_bodyOf) eX0_ask_30 mX0_64 wX0_bodyOf sX0_bodyOf rfl (pX0_bodyOf (S := S) (k := 0) (s := 2) (by decide) (by decide)) (by decide) (Nat.le_of_ble_eq_true rfl) ?_
  refine k_topi (nI 11) (by decide) ?_
  refine k_istore (L2 := [_, _, _, _, _, _, _, _]) eX0_ask_33 (Nat.le_of_ble_eq_true rfl) rfl ?_
  refine k_iload eX0_ask_35 rfl ?_
  refine k_if_eqN 75 eX0_ask_37 (by decide) (by omega) (fun c_37 => by exfalso; omega) (fun c_37 => ?_)
  refine k_aload_n eX0_ask_40 rfl ?_
  refine GX0_19 eX0_ask_41 rfl ?_
  refine k_aload_n eX0_ask_44 rfl ?_
  refine GX0_22 eX0_ask_45 rfl ?_
  refine k_topi (nI n) hran ?_
  refine k_iload eX0_ask_48 rfl ?_
  refine cN0 (M' := MX11_write) eX0_ask_50 mX0_25 wX11_write sX11_write rfl (pX11_writeN (j := n) (v := nI 11) (ar6 _) (by omega) (by decide) (as6 _ _)) (by decide) (Nat.le_of_ble_eq_true rfl) ?_
  refine k_aload_n eX0_ask_53 rfl ?_
  refine k_dup eX0_ask_54 rfl ?_
  refine GX0_22 eX0_ask_55 rfl ?_
  refine k_topi (nI n) hran ?_
  refine k_iconst (v := nI 1) eX0_ask_58 (by decide) ?_
  refine k_iaddN eX0_ask_59 ?_
  refine PX0_22 eX0_ask_60 rfl ?_
  refine k_heap (h2 := hp (trc1 S n 11)) rfl ?_
  refine k_aload_n eX0_ask_63 rfl ?_
  refine k_iload eX0_ask_64 rfl ?_
  refine k_iload_n eX0_ask_66 rfl ?_
  refine k_iload eX0_ask_67 rfl ?_
  refine k_iconst (v := nI 1) eX0_ask_69 (by decide) ?_
  refine k_iaddN eX0_ask_70 ?_
  refine cV1 (M' := MX0_run) eX0_ask_71 mX0_68 wX0_run vX0_run ⟨_, _, _, rfl, rfl, rfl⟩ rfl (pX0_run_1_11 (S := (trc1 S n 11)) (n := n + 1) (dep := (dep + 1)) (nb := nb) (t1K hK) (t1N hnb) rfl (by omega) (by omega) (x)) (by decide) (Nat.le_of_ble_eq_true rfl) ?_
  refine k_ireturn eX0_ask_74 rfl rfl ?_
  exact ⟨rfl, rfl⟩
set_option maxHeartbeats 400000 in
theorem pX0_own_1_1 {S : k_S} {n dep : Nat} {nb : Int32} (hK : S.1 205 = nI 1) (hnb : S.1 204 = nb) (hran : S.1 203 = nI n) (hn : n + 3 ≤ 24) (hdep : dep + 3 ≤ 40) (x : Int32) : Sp 7 0 0 MX0_own [.ref 4, .int (nI 1), .int (x), .int (nI dep)] (hp S) (Rt (some (.int ((((x + nb) + nI 3) * nI 2)))) (hp (trc S n [10, 20, 1]))) := by
  refine Sp_of (by decide +kernel) (Nat.le_of_ble_eq_true rfl) ?_
  show AW none MX0_own 7 0 0 0 [.ref 4, .int (nI 1), .int (x), .int (nI dep)] [] (hp S) _
  refine k_aload_n eX0_own_0 rfl ?_
  refine k_aload_n eX0_own_1 rfl ?_
  refine GX0_51 eX0_own_2 rfl ?_
  refine k_topi (nI 1) hK ?_
  refine k_iload_n eX0_own_5 rfl ?_
  refine k_iload_n eX0_own_6 rfl ?_
  refine k_iload_n eX0_own_7 rfl ?_
  refine cV1 (M' := MX0_ask) eX0_own_8 mX0_54 wX0_ask vX0_ask ⟨_, _, _, rfl, rfl, rfl⟩ rfl (pX0_ask_1_1_1 (S := S) (n := n) (dep := dep) (nb := nb) hK hnb hran (by omega) (by omega) (x)) (by decide) (Nat.le_of_ble_eq_true rfl) ?_
  refine k_ireturn eX0_own_11 rfl rfl ?_
  exact ⟨rfl, rfl⟩
set_option maxHeartbeats 400000 in
theorem pX0_own_1_2 {S : k_S} {n dep : Nat} {nb : Int32} (hK : S.1 205 = nI 1) (hnb : S.1 204 = nb) (hran : S.1 203 = nI n) (hn : n + 1 ≤ 24) (hdep : dep + 1 ≤ 40) (x : Int32) : Sp 2 0 0 MX0_own [.ref 4, .int (nI 2), .int (x), .int (nI dep)] (hp S) (Rt (some (.int ((x ^^^ nb)))) (hp (trc S n [11]))) := by
  refine Sp_of (by decide +kernel) (Nat.le_of_ble_eq_true rfl) ?_
  show AW none MX0_own 2 0 0 0 [.ref 4, .int (nI 2), .int (x), .int (nI dep)] [] (hp S) _
  refine k_aload_n eX0_own_0 rfl ?_
  refine k_aload_n eX0_own_1 rfl ?_
  refine GX0_51 eX0_own_2 rfl ?_
  refine k_topi (nI 1) hK ?_
  refine k_iload_n eX0_own_5 rfl ?_
  refine k_iload_n eX0_own_6 rfl ?_
  refine k_iload_n eX0_own_7 rfl ?_
  refine cV1 (M' := MX0_ask) eX0_own_8 mX0_54 wX0_ask vX0_ask ⟨_, _, _, rfl, rfl, rfl⟩ rfl (pX0_ask_1_1_2 (S := S) (n := n) (dep := dep) (nb := nb) hK hnb hran (by omega) (by omega) (x)) (by decide) (Nat.le_of_ble_eq_true rfl) ?_
  refine k_ireturn eX0_own_11 rfl rfl ?_
  exact ⟨rfl, rfl⟩
set_option maxHeartbeats 400000 in
theorem pX0_run_1_2 {S : k_S} {n dep : Nat} {nb : Int32} (hK : S.1 205 = nI 1) (hnb : S.1 204 = nb) (hran : S.1 203 = nI n) (hn : n + 4 ≤ 24) (hdep : dep + 3 ≤ 40) (x : Int32) : Sp 8 0 0 MX0_run [.ref 4, .int (nI 2), .int (x), .int (nI dep)] (hp S) (Rt (some (.int (((((x + nb) + nI 3) * nI 2) - ((nI 1) ^^^ nb))))) (hp (trc S n [10, 20, 1, 11]))) := by
  refine Sp_of (by decide +kernel) (Nat.le_of_ble_eq_true rfl) ?_
  show AW none MX0_run 8 0 0 0 [.ref 4, .int (nI 2), .int (x), .int (nI dep)] [] (hp S) _
  refine k_iload_n eX0_run_0 rfl ?_
  refine k_look 123 eX0_run_1 (by decide) (off := 122) (by decide) (by decide) ?_
  refine k_aload_n eX0_run_123 rfl ?_
  refine k_iconst (v := nI 1) eX0_run_124 (by decide) ?_
  refine k_iload_n eX0_run_125 rfl ?_
  refine k_iload_n eX0_run_126 rfl ?_
  refine cV1 (M' := MX0_own) eX0_run_127 mX0_72 wX0_own vX0_own ⟨_, _, _, rfl, rfl, rfl⟩ rfl (pX0_own_1_1 (S := S) (n := n) (dep := dep) (nb := nb) hK hnb hran (by omega) (by omega) (x)) (by decide) (Nat.le_of_ble_eq_true rfl) ?_
  refine k_aload_n eX0_run_130 rfl ?_
  refine k_iconst (v := nI 2) eX0_run_131 (by decide) ?_
  refine k_iconst (v := nI 1) eX0_run_132 (by decide) ?_
  refine k_iload_n eX0_run_133 rfl ?_
  refine cV1 (M' := MX0_own) eX0_run_134 mX0_72 wX0_own vX0_own ⟨_, _, _, rfl, rfl, rfl⟩ rfl (pX0_own_1_2 (S := (trc S (n) [10, 20, 1])) (n := n + 3) (dep := dep) (nb := nb) (tK hK) (tN hnb) (tR hran) (by omega) (by omega) (nI 1)) (by decide) (Nat.le_of_ble_eq_true rfl) ?_
  refine k_isub eX0_run_137 ?_
  refine k_ireturn eX0_run_138 rfl rfl ?_
  exact ⟨rfl, congrArg hp (trc_app [10, 20, 1] S n [11]).symm⟩
set_option maxHeartbeats 400000 in
theorem pX0_ask_1_1_3 {S : k_S} {n dep : Nat} {nb : Int32} (hK : S.1 205 = nI 1) (hnb : S.1 204 = nb) (hran : S.1 203 = nI n) (hn : n + 5 ≤ 24) (hdep : dep + 4 ≤ 40) (x : Int32) : Sp 9 0 0 MX0_ask [.ref 4, .int (nI 1), .int (nI 3), .int (x), .int (nI dep)] (hp S) (Rt (some (.int (((((x + nb) + nI 3) * nI 2) - ((nI 1) ^^^ nb))))) (hp (trc S n [2, 10, 20, 1, 11]))) := by
  refine Sp_of (by decide +kernel) (Nat.le_of_ble_eq_true rfl) ?_
  show AW none MX0_ask 9 0 0 0 [.ref 4, .int (nI 1), .int (nI 3), .int (x), .int (nI dep), .null, .null, .null] [] (hp S) _
  refine k_iload eX0_ask_0 rfl ?_
  refine k_bipush (v := nI 40) eX0_ask_2 (by decide) ?_
  refine k_icmp_leN 9 eX0_ask_4 (by decide) (by omega) (by omega) (fun c_4 => ?_) (fun c_4 => by exfalso; omega)
  refine k_iload_n eX0_ask_9 rfl ?_
  refine k_istore (L2 := [_, _, _, _, _, _, _, _]) eX0_ask_10 (Nat.le_of_ble_eq_true rfl) rfl ?_
  refine k_iconst (v := nI 0) eX0_ask_12 (by decide) ?_
  refine k_istore (L2 := [_, _, _, _, _, _, _, _]) eX0_ask_13 (Nat.le_of_ble_eq_true rfl) rfl ?_
  refine k_iload eX0_ask_15 rfl ?_
  refine k_bipush (v := nI 8) eX0_ask_17 (by decide) ?_
  refine k_icmp_gtN 88 eX0_ask_19 (by decide) (by omega) (by omega) (fun c_19 => by exfalso; omega) (fun c_19 => ?_)
  refine k_iload eX0_ask_22 rfl ?_
  refine k_if_ltN 88 eX0_ask_24 (by decide) (by omega) ?_
  refine k_iload eX0_ask_27 rfl ?_
  refine k_iload_n eX0_ask_29 rfl ?_
  refine cS1 (M' := MX0_bodyOf) eX0_ask_30 mX0_64 wX0_bodyOf sX0_bodyOf rfl (pX0_bodyOf (S := S) (k := 1) (s := 3) (by decide) (by decide)) (by decide) (Nat.le_of_ble_eq_true rfl) ?_
  refine k_topi (nI 0) (by decide) ?_
  refine k_istore (L2 := [_, _, _, _, _, _, _, _]) eX0_ask_33 (Nat.le_of_ble_eq_true rfl) rfl ?_
  refine k_iload eX0_ask_35 rfl ?_
  refine k_if_eqN 75 eX0_ask_37 (by decide) (by omega) (fun c_37 => ?_) (fun c_37 => by exfalso; omega)
  refine k_iload eX0_ask_75 rfl ?_
  refine cS1 (M' := MX0_above) eX0_ask_77 mX0_33 wX0_above sX0_above rfl (pX0_above (S := S) (k := 1) (by decide)) (by decide) (Nat.le_of_ble_eq_true rfl) ?_
  refine k_topi (nI 0) (by decide) ?_
  refine k_istore (L2 := [_, _, _, _, _, _, _, _]) eX0_ask_80 (Nat.le_of_ble_eq_true rfl) rfl ?_
  refine k_iincN (g := 1) (a := 0) (L2 := [_, _, _, _, _, _, _, _]) eX0_ask_82 (Nat.le_of_ble_eq_true rfl) rfl rfl ?_
  refine k_goto 15 eX0_ask_85 (by decide) ?_
  refine k_iload eX0_ask_15 rfl ?_
  refine k_bipush (v := nI 8) eX0_ask_17 (by decide) ?_
  refine k_icmp_gtN 88 eX0_ask_19 (by decide) (by omega) (by omega) (fun c_19 => by exfalso; omega) (fun c_19 => ?_)
  refine k_iload eX0_ask_22 rfl ?_
  refine k_if_ltN 88 eX0_ask_24 (by decide) (by omega) ?_
  refine k_iload eX0_ask_27 rfl ?_
  refine k_iload_n eX0_ask_29 rfl ?_
  refine cS1 (M' := MX0_bodyOf) eX0_ask_30 mX0_64 wX0_bodyOf sX0_bodyOf rfl (pX0_bodyOf (S := S) (k := 0) (s := 3) (by decide) (by decide)) (by decide) (Nat.le_of_ble_eq_true rfl) ?_
  refine k_topi (nI 0) (by decide) ?_
  refine k_istore (L2 := [_, _, _, _, _, _, _, _]) eX0_ask_33 (Nat.le_of_ble_eq_true rfl) rfl ?_
  refine k_iload eX0_ask_35 rfl ?_
  refine k_if_eqN 75 eX0_ask_37 (by decide) (by omega) (fun c_37 => ?_) (fun c_37 => by exfalso; omega)
  refine k_iload eX0_ask_75 rfl ?_
  refine cS1 (M' := MX0_above) eX0_ask_77 mX0_33 wX0_above sX0_above rfl (pX0_above (S := S) (k := 0) (by decide)) (by decide) (Nat.le_of_ble_eq_true rfl) ?_
  refine k_topi (nI 8) (by decide) ?_
  refine k_istore (L2 := [_, _, _, _, _, _, _, _]) eX0_ask_80 (Nat.le_of_ble_eq_true rfl) rfl ?_
  refine k_iincN (g := 1) (a := 1) (L2 := [_, _, _, _, _, _, _, _]) eX0_ask_82 (Nat.le_of_ble_eq_true rfl) rfl rfl ?_
  refine k_goto 15 eX0_ask_85 (by decide) ?_
  refine k_iload eX0_ask_15 rfl ?_
  refine k_bipush (v := nI 8) eX0_ask_17 (by decide) ?_
  refine k_icmp_gtN 88 eX0_ask_19 (by decide) (by omega) (by omega) (fun c_19 => by exfalso; omega) (fun c_19 => ?_)
  refine k_iload eX0_ask_22 rfl ?_
  refine k_if_ltN 88 eX0_ask_24 (by decide) (by omega) ?_
  refine k_iload eX0_ask_27 rfl ?_
  refine k_iload_n eX0_ask_29 rfl ?_
  refine cS1 (M' := MX0_bodyOf) eX0_ask_30 mX0_64 wX0_bodyOf sX0_bodyOf rfl (pX0_bodyOf (S := S) (k := 8) (s := 3) (by decide) (by decide)) (by decide) (Nat.le_of_ble_eq_true rfl) ?_
  refine k_topi (nI 2) (by decide) ?_
  refine k_istore (L2 := [_, _, _, _, _, _, _, _]) eX0_ask_33 (Nat.le_of_ble_eq_true rfl) rfl ?_
  refine k_iload eX0_ask_35 rfl ?_
  refine k_if_eqN 75 eX0_ask_37 (by decide) (by omega) (fun c_37 => by exfalso; omega) (fun c_37 => ?_)
  refine k_aload_n eX0_ask_40 rfl ?_
  refine GX0_19 eX0_ask_41 rfl ?_
  refine k_aload_n eX0_ask_44 rfl ?_
  refine GX0_22 eX0_ask_45 rfl ?_
  refine k_topi (nI n) hran ?_
  refine k_iload eX0_ask_48 rfl ?_
  refine cN0 (M' := MX11_write) eX0_ask_50 mX0_25 wX11_write sX11_write rfl (pX11_writeN (j := n) (v := nI 2) (ar6 _) (by omega) (by decide) (as6 _ _)) (by decide) (Nat.le_of_ble_eq_true rfl) ?_
  refine k_aload_n eX0_ask_53 rfl ?_
  refine k_dup eX0_ask_54 rfl ?_
  refine GX0_22 eX0_ask_55 rfl ?_
  refine k_topi (nI n) hran ?_
  refine k_iconst (v := nI 1) eX0_ask_58 (by decide) ?_
  refine k_iaddN eX0_ask_59 ?_
  refine PX0_22 eX0_ask_60 rfl ?_
  refine k_heap (h2 := hp (trc1 S n 2)) rfl ?_
  refine k_aload_n eX0_ask_63 rfl ?_
  refine k_iload eX0_ask_64 rfl ?_
  refine k_iload_n eX0_ask_66 rfl ?_
  refine k_iload eX0_ask_67 rfl ?_
  refine k_iconst (v := nI 1) eX0_ask_69 (by decide) ?_
  refine k_iaddN eX0_ask_70 ?_
  refine cV1 (M' := MX0_run) eX0_ask_71 mX0_68 wX0_run vX0_run ⟨_, _, _, rfl, rfl, rfl⟩ rfl (pX0_run_1_2 (S := (trc1 S n 2)) (n := n + 1) (dep := (dep + 1)) (nb := nb) (t1K hK) (t1N hnb) rfl (by omega) (by omega) (x)) (by decide) (Nat.le_of_ble_eq_true rfl) ?_
  refine k_ireturn eX0_ask_74 rfl rfl ?_
  exact ⟨rfl, congrArg hp (trc_cons S n 2 [10, 20, 1, 11]).symm⟩
set_option maxHeartbeats 400000 in
theorem pX0_run_2_1 {S : k_S} {n dep : Nat} {nb : Int32} (hK : S.1 205 = nI 2) (hnb : S.1 204 = nb) (hran : S.1 203 = nI n) (hn : n + 0 ≤ 24) (hdep : dep + 0 ≤ 40) (x : Int32) : Sp 0 0 0 MX0_run [.ref 4, .int (nI 1), .int (x), .int (nI dep)] (hp S) (Rt (some (.int ((x + nb)))) (hp S)) := by
  refine Sp_of (by decide +kernel) (Nat.le_of_ble_eq_true rfl) ?_
  show AW none MX0_run 0 0 0 0 [.ref 4, .int (nI 1), .int (x), .int (nI dep)] [] (hp S) _
  refine k_iload_n eX0_run_0 rfl ?_
  refine k_look 116 eX0_run_1 (by decide) (off := 115) (by decide) (by decide) ?_
  refine k_iload_n eX0_run_116 rfl ?_
  refine k_aload_n eX0_run_117 rfl ?_
  refine GX0_45 eX0_run_118 rfl ?_
  refine k_topi (nb) hnb ?_
  refine k_iadd eX0_run_121 ?_
  refine k_ireturn eX0_run_122 rfl rfl ?_
  exact ⟨rfl, rfl⟩
set_option maxHeartbeats 400000 in
theorem pX0_ask_2_2_0 {S : k_S} {n dep : Nat} {nb : Int32} (hK : S.1 205 = nI 2) (hnb : S.1 204 = nb) (hran : S.1 203 = nI n) (hn : n + 1 ≤ 24) (hdep : dep + 1 ≤ 40) (x : Int32) : Sp 1 0 0 MX0_ask [.ref 4, .int (nI 2), .int (nI 0), .int (x), .int (nI dep)] (hp S) (Rt (some (.int ((x + nb)))) (hp (trc S n [1]))) := by
  refine Sp_of (by decide +kernel) (Nat.le_of_ble_eq_true rfl) ?_
  show AW none MX0_ask 1 0 0 0 [.ref 4, .int (nI 2), .int (nI 0), .int (x), .int (nI dep), .null, .null, .null] [] (hp S) _
  refine k_iload eX0_ask_0 rfl ?_
  refine k_bipush (v := nI 40) eX0_ask_2 (by decide) ?_
  refine k_icmp_leN 9 eX0_ask_4 (by decide) (by omega) (by omega) (fun c_4 => ?_) (fun c_4 => by exfalso; omega)
  refine k_iload_n eX0_ask_9 rfl ?_
  refine k_istore (L2 := [_, _, _, _, _, _, _, _]) eX0_ask_10 (Nat.le_of_ble_eq_true rfl) rfl ?_
  refine k_iconst (v := nI 0) eX0_ask_12 (by decide) ?_
  refine k_istore (L2 := [_, _, _, _, _, _, _, _]) eX0_ask_13 (Nat.le_of_ble_eq_true rfl) rfl ?_
  refine k_iload eX0_ask_15 rfl ?_
  refine k_bipush (v := nI 8) eX0_ask_17 (by decide) ?_
  refine k_icmp_gtN 88 eX0_ask_19 (by decide) (by omega) (by omega) (fun c_19 => by exfalso; omega) (fun c_19 => ?_)
  refine k_iload eX0_ask_22 rfl ?_
  refine k_if_ltN 88 eX0_ask_24 (by decide) (by omega) ?_
  refine k_iload eX0_ask_27 rfl ?_
  refine k_iload_n eX0_ask_29 rfl ?_
  refine cS1 (M' := MX0_bodyOf) eX0_ask_30 mX0_64 wX0_bodyOf sX0_bodyOf rfl (pX0_bodyOf (S := S) (k := 2) (s := 0) (by decide) (by decide)) (by decide) (Nat.le_of_ble_eq_true rfl) ?_
  refine k_topi (nI 0) (by decide) ?_
  refine k_istore (L2 := [_, _, _, _, _, _, _, _]) eX0_ask_33 (Nat.le_of_ble_eq_true rfl) rfl ?_
  refine k_iload eX0_ask_35 rfl ?_
  refine k_if_eqN 75 eX0_ask_37 (by decide) (by omega) (fun c_37 => ?_) (fun c_37 => by exfalso; omega)
  refine k_iload eX0_ask_75 rfl ?_
  refine cS1 (M' := MX0_above) eX0_ask_77 mX0_33 wX0_above sX0_above rfl (pX0_above (S := S) (k := 2) (by decide)) (by decide) (Nat.le_of_ble_eq_true rfl) ?_
  refine k_topi (nI 0) (by decide) ?_
  refine k_istore (L2 := [_, _, _, _, _, _, _, _]) eX0_ask_80 (Nat.le_of_ble_eq_true rfl) rfl ?_
  refine k_iincN (g := 1) (a := 0) (L2 := [_, _, _, _, _, _, _, _]) eX0_ask_82 (Nat.le_of_ble_eq_true rfl) rfl rfl ?_
  refine k_goto 15 eX0_ask_85 (by decide) ?_
  refine k_iload eX0_ask_15 rfl ?_
  refine k_bipush (v := nI 8) eX0_ask_17 (by decide) ?_
  refine k_icmp_gtN 88 eX0_ask_19 (by decide) (by omega) (by omega) (fun c_19 => by exfalso; omega) (fun c_19 => ?_)
  refine k_iload eX0_ask_22 rfl ?_
  refine k_if_ltN 88 eX0_ask_24 (by decide) (by omega) ?_
  refine k_iload eX0_ask_27 rfl ?_
  refine k_iload_n eX0_ask_29 rfl ?_
  refine cS1 (M' := MX0_bodyOf) eX0_ask_30 mX0_64 wX0_bodyOf sX0_bodyOf rfl (pX0_bodyOf (S := S) (k := 0) (s := 0) (by decide) (by decide)) (by decide) (Nat.le_of_ble_eq_true rfl) ?_
  refine k_topi (nI 0) (by decide) ?_
  refine k_istore (L2 := [_, _, _, _, _, _, _, _]) eX0_ask_33 (Nat.le_of_ble_eq_true rfl) rfl ?_
  refine k_iload eX0_ask_35 rfl ?_
  refine k_if_eqN 75 eX0_ask_37 (by decide) (by omega) (fun c_37 => ?_) (fun c_37 => by exfalso; omega)
  refine k_iload eX0_ask_75 rfl ?_
  refine cS1 (M' := MX0_above) eX0_ask_77 mX0_33 wX0_above sX0_above rfl (pX0_above (S := S) (k := 0) (by decide)) (by decide) (Nat.le_of_ble_eq_true rfl) ?_
  refine k_topi (nI 8) (by decide) ?_
  refine k_istore (L2 := [_, _, _, _, _, _, _, _]) eX0_ask_80 (Nat.le_of_ble_eq_true rfl) rfl ?_
  refine k_iincN (g := 1) (a := 1) (L2 := [_, _, _, _, _, _, _, _]) eX0_ask_82 (Nat.le_of_ble_eq_true rfl) rfl rfl ?_
  refine k_goto 15 eX0_ask_85 (by decide) ?_
  refine k_iload eX0_ask_15 rfl ?_
  refine k_bipush (v := nI 8) eX0_ask_17 (by decide) ?_
  refine k_icmp_gtN 88 eX0_ask_19 (by decide) (by omega) (by omega) (fun c_19 => by exfalso; omega) (fun c_19 => ?_)
  refine k_iload eX0_ask_22 rfl ?_
  refine k_if_ltN 88 eX0_ask_24 (by decide) (by omega) ?_
  refine k_iload eX0_ask_27 rfl ?_
  refine k_iload_n eX0_ask_29 rfl ?_
  refine cS1 (M' := MX0_bodyOf) eX0_ask_30 mX0_64 wX0_bodyOf sX0_bodyOf rfl (pX0_bodyOf (S := S) (k := 8) (s := 0) (by decide) (by decide)) (by decide) (Nat.le_of_ble_eq_true rfl) ?_
  refine k_topi (nI 1) (by decide) ?_
  refine k_istore (L2 := [_, _, _, _, _, _, _, _]) eX0_ask_33 (Nat.le_of_ble_eq_true rfl) rfl ?_
  refine k_iload eX0_ask_35 rfl ?_
  refine k_if_eqN 75 eX0_ask_37 (by decide) (by omega) (fun c_37 => by exfalso; omega) (fun c_37 => ?_)
  refine k_aload_n eX0_ask_40 rfl ?_
  refine GX0_19 eX0_ask_41 rfl ?_
  refine k_aload_n eX0_ask_44 rfl ?_
  refine GX0_22 eX0_ask_45 rfl ?_
  refine k_topi (nI n) hran ?_
  refine k_iload eX0_ask_48 rfl ?_
  refine cN0 (M' := MX11_write) eX0_ask_50 mX0_25 wX11_write sX11_write rfl (pX11_writeN (j := n) (v := nI 1) (ar6 _) (by omega) (by decide) (as6 _ _)) (by decide) (Nat.le_of_ble_eq_true rfl) ?_
  refine k_aload_n eX0_ask_53 rfl ?_
  refine k_dup eX0_ask_54 rfl ?_
  refine GX0_22 eX0_ask_55 rfl ?_
  refine k_topi (nI n) hran ?_
  refine k_iconst (v := nI 1) eX0_ask_58 (by decide) ?_
  refine k_iaddN eX0_ask_59 ?_
  refine PX0_22 eX0_ask_60 rfl ?_
  refine k_heap (h2 := hp (trc1 S n 1)) rfl ?_
  refine k_aload_n eX0_ask_63 rfl ?_
  refine k_iload eX0_ask_64 rfl ?_
  refine k_iload_n eX0_ask_66 rfl ?_
  refine k_iload eX0_ask_67 rfl ?_
  refine k_iconst (v := nI 1) eX0_ask_69 (by decide) ?_
  refine k_iaddN eX0_ask_70 ?_
  refine cV1 (M' := MX0_run) eX0_ask_71 mX0_68 wX0_run vX0_run ⟨_, _, _, rfl, rfl, rfl⟩ rfl (pX0_run_2_1 (S := (trc1 S n 1)) (n := n + 1) (dep := (dep + 1)) (nb := nb) (t1K hK) (t1N hnb) rfl (by omega) (by omega) (x)) (by decide) (Nat.le_of_ble_eq_true rfl) ?_
  refine k_ireturn eX0_ask_74 rfl rfl ?_
  exact ⟨rfl, rfl⟩
set_option maxHeartbeats 400000 in
theorem pX0_own_2_0 {S : k_S} {n dep : Nat} {nb : Int32} (hK : S.1 205 = nI 2) (hnb : S.1 204 = nb) (hran : S.1 203 = nI n) (hn : n + 1 ≤ 24) (hdep : dep + 1 ≤ 40) (x : Int32) : Sp 2 0 0 MX0_own [.ref 4, .int (nI 0), .int (x), .int (nI dep)] (hp S) (Rt (some (.int ((x + nb)))) (hp (trc S n [1]))) := by
  refine Sp_of (by decide +kernel) (Nat.le_of_ble_eq_true rfl) ?_
  show AW none MX0_own 2 0 0 0 [.ref 4, .int (nI 0), .int (x), .int (nI dep)] [] (hp S) _
  refine k_aload_n eX0_own_0 rfl ?_
  refine k_aload_n eX0_own_1 rfl ?_
  refine GX0_51 eX0_own_2 rfl ?_
  refine k_topi (nI 2) hK ?_
  refine k_iload_n eX0_own_5 rfl ?_
  refine k_iload_n eX0_own_6 rfl ?_
  refine k_iload_n eX0_own_7 rfl ?_
  refine cV1 (M' := MX0_ask) eX0_own_8 mX0_54 wX0_ask vX0_ask ⟨_, _, _, rfl, rfl, rfl⟩ rfl (pX0_ask_2_2_0 (S := S) (n := n) (dep := dep) (nb := nb) hK hnb hran (by omega) (by omega) (x)) (by decide) (Nat.le_of_ble_eq_true rfl) ?_
  refine k_ireturn eX0_own_11 rfl rfl ?_
  exact ⟨rfl, rfl⟩
set_option maxHeartbeats 400000 in
theorem pX0_run_2_10 {S : k_S} {n dep : Nat} {nb : Int32} (hK : S.1 205 = nI 2) (hnb : S.1 204 = nb) (hran : S.1 203 = nI n) (hn : n + 1 ≤ 24) (hdep : dep + 1 ≤ 40) (x : Int32) : Sp 3 0 0 MX0_run [.ref 4, .int (nI 10), .int (x), .int (nI dep)] (hp S) (Rt (some (.int (((x + nb) * nI 2)))) (hp (trc S n [1]))) := by
  refine Sp_of (by decide +kernel) (Nat.le_of_ble_eq_true rfl) ?_
  show AW none MX0_run 3 0 0 0 [.ref 4, .int (nI 10), .int (x), .int (nI dep)] [] (hp S) _
  refine k_iload_n eX0_run_0 rfl ?_
  refine k_look 139 eX0_run_1 (by decide) (off := 138) (by decide) (by decide) ?_
  refine k_aload_n eX0_run_139 rfl ?_
  refine k_iconst (v := nI 0) eX0_run_140 (by decide) ?_
  refine k_iload_n eX0_run_141 rfl ?_
  refine k_iload_n eX0_run_142 rfl ?_
  refine cV1 (M' := MX0_own) eX0_run_143 mX0_72 wX0_own vX0_own ⟨_, _, _, rfl, rfl, rfl⟩ rfl (pX0_own_2_0 (S := S) (n := n) (dep := dep) (nb := nb) hK hnb hran (by omega) (by omega) (x)) (by decide) (Nat.le_of_ble_eq_true rfl) ?_
  refine k_iconst (v := nI 2) eX0_run_146 (by decide) ?_
  refine k_imul eX0_run_147 ?_
  refine k_ireturn eX0_run_148 rfl rfl ?_
  exact ⟨rfl, rfl⟩
set_option maxHeartbeats 400000 in
theorem pX0_ask_2_0_1 {S : k_S} {n dep : Nat} {nb : Int32} (hK : S.1 205 = nI 2) (hnb : S.1 204 = nb) (hran : S.1 203 = nI n) (hn : n + 2 ≤ 24) (hdep : dep + 2 ≤ 40) (x : Int32) : Sp 4 0 0 MX0_ask [.ref 4, .int (nI 0), .int (nI 1), .int (x), .int (nI dep)] (hp S) (Rt (some (.int (((x + nb) * nI 2)))) (hp (trc S n [10, 1]))) := by
  refine Sp_of (by decide +kernel) (Nat.le_of_ble_eq_true rfl) ?_
  show AW none MX0_ask 4 0 0 0 [.ref 4, .int (nI 0), .int (nI 1), .int (x), .int (nI dep), .null, .null, .null] [] (hp S) _
  refine k_iload eX0_ask_0 rfl ?_
  refine k_bipush (v := nI 40) eX0_ask_2 (by decide) ?_
  refine k_icmp_leN 9 eX0_ask_4 (by decide) (by omega) (by omega) (fun c_4 => ?_) (fun c_4 => by exfalso; omega)
  refine k_iload_n eX0_ask_9 rfl ?_
  refine k_istore (L2 := [_, _, _, _, _, _, _, _]) eX0_ask_10 (Nat.le_of_ble_eq_true rfl) rfl ?_
  refine k_iconst (v := nI 0) eX0_ask_12 (by decide) ?_
  refine k_istore (L2 := [_, _, _, _, _, _, _, _]) eX0_ask_13 (Nat.le_of_ble_eq_true rfl) rfl ?_
  refine k_iload eX0_ask_15 rfl ?_
  refine k_bipush (v := nI 8) eX0_ask_17 (by decide) ?_
  refine k_icmp_gtN 88 eX0_ask_19 (by decide) (by omega) (by omega) (fun c_19 => by exfalso; omega) (fun c_19 => ?_)
  refine k_iload eX0_ask_22 rfl ?_
  refine k_if_ltN 88 eX0_ask_24 (by decide) (by omega) ?_
  refine k_iload eX0_ask_27 rfl ?_
  refine k_iload_n eX0_ask_29 rfl ?_
  refine cS1 (M' := MX0_bodyOf) eX0_ask_30 mX0_64 wX0_bodyOf sX0_bodyOf rfl (pX0_bodyOf (S := S) (k := 0) (s := 1) (by decide) (by decide)) (by decide) (Nat.le_of_ble_eq_true rfl) ?_
  refine k_topi (nI 10) (by decide) ?_
  refine k_istore (L2 := [_, _, _, _, _, _, _, _]) eX0_ask_33 (Nat.le_of_ble_eq_true rfl) rfl ?_
  refine k_iload eX0_ask_35 rfl ?_
  refine k_if_eqN 75 eX0_ask_37 (by decide) (by omega) (fun c_37 => by exfalso; omega) (fun c_37 => ?_)
  refine k_aload_n eX0_ask_40 rfl ?_
  refine GX0_19 eX0_ask_41 rfl ?_
  refine k_aload_n eX0_ask_44 rfl ?_
  refine GX0_22 eX0_ask_45 rfl ?_
  refine k_topi (nI n) hran ?_
  refine k_iload eX0_ask_48 rfl ?_
  refine cN0 (M' := MX11_write) eX0_ask_50 mX0_25 wX11_write sX11_write rfl (pX11_writeN (j := n) (v := nI 10) (ar6 _) (by omega) (by decide) (as6 _ _)) (by decide) (Nat.le_of_ble_eq_true rfl) ?_
  refine k_aload_n eX0_ask_53 rfl ?_
  refine k_dup eX0_ask_54 rfl ?_
  refine GX0_22 eX0_ask_55 rfl ?_
  refine k_topi (nI n) hran ?_
  refine k_iconst (v := nI 1) eX0_ask_58 (by decide) ?_
  refine k_iaddN eX0_ask_59 ?_
  refine PX0_22 eX0_ask_60 rfl ?_
  refine k_heap (h2 := hp (trc1 S n 10)) rfl ?_
  refine k_aload_n eX0_ask_63 rfl ?_
  refine k_iload eX0_ask_64 rfl ?_
  refine k_iload_n eX0_ask_66 rfl ?_
  refine k_iload eX0_ask_67 rfl ?_
  refine k_iconst (v := nI 1) eX0_ask_69 (by decide) ?_
  refine k_iaddN eX0_ask_70 ?_
  refine cV1 (M' := MX0_run) eX0_ask_71 mX0_68 wX0_run vX0_run ⟨_, _, _, rfl, rfl, rfl⟩ rfl (pX0_run_2_10 (S := (trc1 S n 10)) (n := n + 1) (dep := (dep + 1)) (nb := nb) (t1K hK) (t1N hnb) rfl (by omega) (by omega) (x)) (by decide) (Nat.le_of_ble_eq_true rfl) ?_
  refine k_ireturn eX0_ask_74 rfl rfl ?_
  exact ⟨rfl, congrArg hp (trc_cons S n 10 [1]).symm⟩
set_option maxHeartbeats 400000 in
theorem pX0_run_2_30 {S : k_S} {n dep : Nat} {nb : Int32} (hK : S.1 205 = nI 2) (hnb : S.1 204 = nb) (hran : S.1 203 = nI n) (hn : n + 2 ≤ 24) (hdep : dep + 2 ≤ 40) (x : Int32) : Sp 5 0 0 MX0_run [.ref 4, .int (nI 30), .int (x), .int (nI dep)] (hp S) (Rt (some (.int ((-(((x + nb) * nI 2)))))) (hp (trc S n [10, 1]))) := by
  refine Sp_of (by decide +kernel) (Nat.le_of_ble_eq_true rfl) ?_
  show AW none MX0_run 5 0 0 0 [.ref 4, .int (nI 30), .int (x), .int (nI dep)] [] (hp S) _
  refine k_iload_n eX0_run_0 rfl ?_
  refine k_look 170 eX0_run_1 (by decide) (off := 169) (by decide) (by decide) ?_
  refine k_aload_n eX0_run_170 rfl ?_
  refine k_iconst (v := nI 2) eX0_run_171 (by decide) ?_
  refine cS1 (M' := MX0_above) eX0_run_172 mX0_33 wX0_above sX0_above rfl (pX0_above (S := S) (k := 2) (by decide)) (by decide) (Nat.le_of_ble_eq_true rfl) ?_
  refine k_topi (nI 0) (by decide) ?_
  refine k_iconst (v := nI 1) eX0_run_175 (by decide) ?_
  refine k_iload_n eX0_run_176 rfl ?_
  refine k_iload_n eX0_run_177 rfl ?_
  refine cV1 (M' := MX0_ask) eX0_run_178 mX0_54 wX0_ask vX0_ask ⟨_, _, _, rfl, rfl, rfl⟩ rfl (pX0_ask_2_0_1 (S := S) (n := n) (dep := dep) (nb := nb) hK hnb hran (by omega) (by omega) (x)) (by decide) (Nat.le_of_ble_eq_true rfl) ?_
  refine k_ineg eX0_run_181 ?_
  refine k_ireturn eX0_run_182 rfl rfl ?_
  exact ⟨rfl, rfl⟩
set_option maxHeartbeats 400000 in
theorem pX0_ask_2_2_1 {S : k_S} {n dep : Nat} {nb : Int32} (hK : S.1 205 = nI 2) (hnb : S.1 204 = nb) (hran : S.1 203 = nI n) (hn : n + 3 ≤ 24) (hdep : dep + 3 ≤ 40) (x : Int32) : Sp 6 0 0 MX0_ask [.ref 4, .int (nI 2), .int (nI 1), .int (x), .int (nI dep)] (hp S) (Rt (some (.int ((-(((x + nb) * nI 2)))))) (hp (trc S n [30, 10, 1]))) := by
  refine Sp_of (by decide +kernel) (Nat.le_of_ble_eq_true rfl) ?_
  show AW none MX0_ask 6 0 0 0 [.ref 4, .int (nI 2), .int (nI 1), .int (x), .int (nI dep), .null, .null, .null] [] (hp S) _
  refine k_iload eX0_ask_0 rfl ?_
  refine k_bipush (v := nI 40) eX0_ask_2 (by decide) ?_
  refine k_icmp_leN 9 eX0_ask_4 (by decide) (by omega) (by omega) (fun c_4 => ?_) (fun c_4 => by exfalso; omega)
  refine k_iload_n eX0_ask_9 rfl ?_
  refine k_istore (L2 := [_, _, _, _, _, _, _, _]) eX0_ask_10 (Nat.le_of_ble_eq_true rfl) rfl ?_
  refine k_iconst (v := nI 0) eX0_ask_12 (by decide) ?_
  refine k_istore (L2 := [_, _, _, _, _, _, _, _]) eX0_ask_13 (Nat.le_of_ble_eq_true rfl) rfl ?_
  refine k_iload eX0_ask_15 rfl ?_
  refine k_bipush (v := nI 8) eX0_ask_17 (by decide) ?_
  refine k_icmp_gtN 88 eX0_ask_19 (by decide) (by omega) (by omega) (fun c_19 => by exfalso; omega) (fun c_19 => ?_)
  refine k_iload eX0_ask_22 rfl ?_
  refine k_if_ltN 88 eX0_ask_24 (by decide) (by omega) ?_
  refine k_iload eX0_ask_27 rfl ?_
  refine k_iload_n eX0_ask_29 rfl ?_
  refine cS1 (M' := MX0_bodyOf) eX0_ask_30 mX0_64 wX0_bodyOf sX0_bodyOf rfl (pX0_bodyOf (S := S) (k := 2) (s := 1) (by decide) (by decide)) (by decide) (Nat.le_of_ble_eq_true rfl) ?_
  refine k_topi (nI 30) (by decide) ?_
  refine k_istore (L2 := [_, _, _, _, _, _, _, _]) eX0_ask_33 (Nat.le_of_ble_eq_true rfl) rfl ?_
  refine k_iload eX0_ask_35 rfl ?_
  refine k_if_eqN 75 eX0_ask_37 (by decide) (by omega) (fun c_37 => by exfalso; omega) (fun c_37 => ?_)
  refine k_aload_n eX0_ask_40 rfl ?_
  refine GX0_19 eX0_ask_41 rfl ?_
  refine k_aload_n eX0_ask_44 rfl ?_
  refine GX0_22 eX0_ask_45 rfl ?_
  refine k_topi (nI n) hran ?_
  refine k_iload eX0_ask_48 rfl ?_
  refine cN0 (M' := MX11_write) eX0_ask_50 mX0_25 wX11_write sX11_write rfl (pX11_writeN (j := n) (v := nI 30) (ar6 _) (by omega) (by decide) (as6 _ _)) (by decide) (Nat.le_of_ble_eq_true rfl) ?_
  refine k_aload_n eX0_ask_53 rfl ?_
  refine k_dup eX0_ask_54 rfl ?_
  refine GX0_22 eX0_ask_55 rfl ?_
  refine k_topi (nI n) hran ?_
  refine k_iconst (v := nI 1) eX0_ask_58 (by decide) ?_
  refine k_iaddN eX0_ask_59 ?_
  refine PX0_22 eX0_ask_60 rfl ?_
  refine k_heap (h2 := hp (trc1 S n 30)) rfl ?_
  refine k_aload_n eX0_ask_63 rfl ?_
  refine k_iload eX0_ask_64 rfl ?_
  refine k_iload_n eX0_ask_66 rfl ?_
  refine k_iload eX0_ask_67 rfl ?_
  refine k_iconst (v := nI 1) eX0_ask_69 (by decide) ?_
  refine k_iaddN eX0_ask_70 ?_
  refine cV1 (M' := MX0_run) eX0_ask_71 mX0_68 wX0_run vX0_run ⟨_, _, _, rfl, rfl, rfl⟩ rfl (pX0_run_2_30 (S := (trc1 S n 30)) (n := n + 1) (dep := (dep + 1)) (nb := nb) (t1K hK) (t1N hnb) rfl (by omega) (by omega) (x)) (by decide) (Nat.le_of_ble_eq_true rfl) ?_
  refine k_ireturn eX0_ask_74 rfl rfl ?_
  exact ⟨rfl, congrArg hp (trc_cons S n 30 [10, 1]).symm⟩
set_option maxHeartbeats 400000 in
theorem pX0_run_2_11 {S : k_S} {n dep : Nat} {nb : Int32} (hK : S.1 205 = nI 2) (hnb : S.1 204 = nb) (hran : S.1 203 = nI n) (hn : n + 0 ≤ 24) (hdep : dep + 0 ≤ 40) (x : Int32) : Sp 0 0 0 MX0_run [.ref 4, .int (nI 11), .int (x), .int (nI dep)] (hp S) (Rt (some (.int ((x ^^^ nb)))) (hp S)) := by
  refine Sp_of (by decide +kernel) (Nat.le_of_ble_eq_true rfl) ?_
  show AW none MX0_run 0 0 0 0 [.ref 4, .int (nI 11), .int (x), .int (nI dep)] [] (hp S) _
  refine k_iload_n eX0_run_0 rfl ?_
  refine k_look 149 eX0_run_1 (by decide) (off := 148) (by decide) (by decide) ?_
  refine k_iload_n eX0_run_149 rfl ?_
  refine k_aload_n eX0_run_150 rfl ?_
  refine GX0_45 eX0_run_151 rfl ?_
  refine k_topi (nb) hnb ?_
  refine k_ixor eX0_run_154 ?_
  refine k_ireturn eX0_run_155 rfl rfl ?_
  exact ⟨rfl, rfl⟩
set_option maxHeartbeats 400000 in
theorem pX0_ask_2_2_2 {S : k_S} {n dep : Nat} {nb : Int32} (hK : S.1 205 = nI 2) (hnb : S.1 204 = nb) (hran : S.1 203 = nI n) (hn : n + 1 ≤ 24) (hdep : dep + 1 ≤ 40) (x : Int32) : Sp 1 0 0 MX0_ask [.ref 4, .int (nI 2), .int (nI 2), .int (x), .int (nI dep)] (hp S) (Rt (some (.int ((x ^^^ nb)))) (hp (trc S n [11]))) := by
  refine Sp_of (by decide +kernel) (Nat.le_of_ble_eq_true rfl) ?_
  show AW none MX0_ask 1 0 0 0 [.ref 4, .int (nI 2), .int (nI 2), .int (x), .int (nI dep), .null, .null, .null] [] (hp S) _
  refine k_iload eX0_ask_0 rfl ?_
  refine k_bipush (v := nI 40) eX0_ask_2 (by decide) ?_
  refine k_icmp_leN 9 eX0_ask_4 (by decide) (by omega) (by omega) (fun c_4 => ?_) (fun c_4 => by exfalso; omega)
  refine k_iload_n eX0_ask_9 rfl ?_
  refine k_istore (L2 := [_, _, _, _, _, _, _, _]) eX0_ask_10 (Nat.le_of_ble_eq_true rfl) rfl ?_
  refine k_iconst (v := nI 0) eX0_ask_12 (by decide) ?_
  refine k_istore (L2 := [_, _, _, _, _, _, _, _]) eX0_ask_13 (Nat.le_of_ble_eq_true rfl) rfl ?_
  refine k_iload eX0_ask_15 rfl ?_
  refine k_bipush (v := nI 8) eX0_ask_17 (by decide) ?_
  refine k_icmp_gtN 88 eX0_ask_19 (by decide) (by omega) (by omega) (fun c_19 => by exfalso; omega) (fun c_19 => ?_)
  refine k_iload eX0_ask_22 rfl ?_
  refine k_if_ltN 88 eX0_ask_24 (by decide) (by omega) ?_
  refine k_iload eX0_ask_27 rfl ?_
  refine k_iload_n eX0_ask_29 rfl ?_
  refine cS1 (M' := MX0_bodyOf) eX0_ask_30 mX0_64 wX0_bodyOf sX0_bodyOf rfl (pX0_bodyOf (S := S) (k := 2) (s := 2) (by decide) (by decide)) (by decide) (Nat.le_of_ble_eq_true rfl) ?_
  refine k_topi (nI 0) (by decide) ?_
  refine k_istore (L2 := [_, _, _, _, _, _, _, _]) eX0_ask_33 (Nat.le_of_ble_eq_true rfl) rfl ?_
  refine k_iload eX0_ask_35 rfl ?_
  refine k_if_eqN 75 eX0_ask_37 (by decide) (by omega) (fun c_37 => ?_) (fun c_37 => by exfalso; omega)
  refine k_iload eX0_ask_75 rfl ?_
  refine cS1 (M' := MX0_above) eX0_ask_77 mX0_33 wX0_above sX0_above rfl (pX0_above (S := S) (k := 2) (by decide)) (by decide) (Nat.le_of_ble_eq_true rfl) ?_
  refine k_topi (nI 0) (by decide) ?_
  refine k_istore (L2 := [_, _, _, _, _, _, _, _]) eX0_ask_80 (Nat.le_of_ble_eq_true rfl) rfl ?_
  refine k_iincN (g := 1) (a := 0) (L2 := [_, _, _, _, _, _, _, _]) eX0_ask_82 (Nat.le_of_ble_eq_true rfl) rfl rfl ?_
  refine k_goto 15 eX0_ask_85 (by decide) ?_
  refine k_iload eX0_ask_15 rfl ?_
  refine k_bipush (v := nI 8) eX0_ask_17 (by decide) ?_
  refine k_icmp_gtN 88 eX0_ask_19 (by decide) (by omega) (by omega) (fun c_19 => by exfalso; omega) (fun c_19 => ?_)
  refine k_iload eX0_ask_22 rfl ?_
  refine k_if_ltN 88 eX0_ask_24 (by decide) (by omega) ?_
  refine k_iload eX0_ask_27 rfl ?_
  refine k_iload_n eX0_ask_29 rfl ?_
  refine cS1 (M' := MX0_bodyOf) eX0_ask_30 mX0_64 wX0_bodyOf sX0_bodyOf rfl (pX0_bodyOf (S := S) (k := 0) (s := 2) (by decide) (by decide)) (by decide) (Nat.le_of_ble_eq_true rfl) ?_
  refine k_topi (nI 11) (by decide) ?_
  refine k_istore (L2 := [_, _, _, _, _, _, _, _]) eX0_ask_33 (Nat.le_of_ble_eq_true rfl) rfl ?_
  refine k_iload eX0_ask_35 rfl ?_
  refine k_if_eqN 75 eX0_ask_37 (by decide) (by omega) (fun c_37 => by exfalso; omega) (fun c_37 => ?_)
  refine k_aload_n eX0_ask_40 rfl ?_
  refine GX0_19 eX0_ask_41 rfl ?_
  refine k_aload_n eX0_ask_44 rfl ?_
  refine GX0_22 eX0_ask_45 rfl ?_
  refine k_topi (nI n) hran ?_
  refine k_iload eX0_ask_48 rfl ?_
  refine cN0 (M' := MX11_write) eX0_ask_50 mX0_25 wX11_write sX11_write rfl (pX11_writeN (j := n) (v := nI 11) (ar6 _) (by omega) (by decide) (as6 _ _)) (by decide) (Nat.le_of_ble_eq_true rfl) ?_
  refine k_aload_n eX0_ask_53 rfl ?_
  refine k_dup eX0_ask_54 rfl ?_
  refine GX0_22 eX0_ask_55 rfl ?_
  refine k_topi (nI n) hran ?_
  refine k_iconst (v := nI 1) eX0_ask_58 (by decide) ?_
  refine k_iaddN eX0_ask_59 ?_
  refine PX0_22 eX0_ask_60 rfl ?_
  refine k_heap (h2 := hp (trc1 S n 11)) rfl ?_
  refine k_aload_n eX0_ask_63 rfl ?_
  refine k_iload eX0_ask_64 rfl ?_
  refine k_iload_n eX0_ask_66 rfl ?_
  refine k_iload eX0_ask_67 rfl ?_
  refine k_iconst (v := nI 1) eX0_ask_69 (by decide) ?_
  refine k_iaddN eX0_ask_70 ?_
  refine cV1 (M' := MX0_run) eX0_ask_71 mX0_68 wX0_run vX0_run ⟨_, _, _, rfl, rfl, rfl⟩ rfl (pX0_run_2_11 (S := (trc1 S n 11)) (n := n + 1) (dep := (dep + 1)) (nb := nb) (t1K hK) (t1N hnb) rfl (by omega) (by omega) (x)) (by decide) (Nat.le_of_ble_eq_true rfl) ?_
  refine k_ireturn eX0_ask_74 rfl rfl ?_
  exact ⟨rfl, rfl⟩
set_option maxHeartbeats 400000 in
theorem pX0_own_2_1 {S : k_S} {n dep : Nat} {nb : Int32} (hK : S.1 205 = nI 2) (hnb : S.1 204 = nb) (hran : S.1 203 = nI n) (hn : n + 3 ≤ 24) (hdep : dep + 3 ≤ 40) (x : Int32) : Sp 7 0 0 MX0_own [.ref 4, .int (nI 1), .int (x), .int (nI dep)] (hp S) (Rt (some (.int ((-(((x + nb) * nI 2)))))) (hp (trc S n [30, 10, 1]))) := by
  refine Sp_of (by decide +kernel) (Nat.le_of_ble_eq_true rfl) ?_
  show AW none MX0_own 7 0 0 0 [.ref 4, .int (nI 1), .int (x), .int (nI dep)] [] (hp S) _
  refine k_aload_n eX0_own_0 rfl ?_
  refine k_aload_n eX0_own_1 rfl ?_
  refine GX0_51 eX0_own_2 rfl ?_
  refine k_topi (nI 2) hK ?_
  refine k_iload_n eX0_own_5 rfl ?_
  refine k_iload_n eX0_own_6 rfl ?_
  refine k_iload_n eX0_own_7 rfl ?_
  refine cV1 (M' := MX0_ask) eX0_own_8 mX0_54 wX0_ask vX0_ask ⟨_, _, _, rfl, rfl, rfl⟩ rfl (pX0_ask_2_2_1 (S := S) (n := n) (dep := dep) (nb := nb) hK hnb hran (by omega) (by omega) (x)) (by decide) (Nat.le_of_ble_eq_true rfl) ?_
  refine k_ireturn eX0_own_11 rfl rfl ?_
  exact ⟨rfl, rfl⟩
set_option maxHeartbeats 400000 in
theorem pX0_own_2_2 {S : k_S} {n dep : Nat} {nb : Int32} (hK : S.1 205 = nI 2) (hnb : S.1 204 = nb) (hran : S.1 203 = nI n) (hn : n + 1 ≤ 24) (hdep : dep + 1 ≤ 40) (x : Int32) : Sp 2 0 0 MX0_own [.ref 4, .int (nI 2), .int (x), .int (nI dep)] (hp S) (Rt (some (.int ((x ^^^ nb)))) (hp (trc S n [11]))) := by
  refine Sp_of (by decide +kernel) (Nat.le_of_ble_eq_true rfl) ?_
  show AW none MX0_own 2 0 0 0 [.ref 4, .int (nI 2), .int (x), .int (nI dep)] [] (hp S) _
  refine k_aload_n eX0_own_0 rfl ?_
  refine k_aload_n eX0_own_1 rfl ?_
  refine GX0_51 eX0_own_2 rfl ?_
  refine k_topi (nI 2) hK ?_
  refine k_iload_n eX0_own_5 rfl ?_
  refine k_iload_n eX0_own_6 rfl ?_
  refine k_iload_n eX0_own_7 rfl ?_
  refine cV1 (M' := MX0_ask) eX0_own_8 mX0_54 wX0_ask vX0_ask ⟨_, _, _, rfl, rfl, rfl⟩ rfl (pX0_ask_2_2_2 (S := S) (n := n) (dep := dep) (nb := nb) hK hnb hran (by omega) (by omega) (x)) (by decide) (Nat.le_of_ble_eq_true rfl) ?_
  refine k_ireturn eX0_own_11 rfl rfl ?_
  exact ⟨rfl, rfl⟩
set_option maxHeartbeats 400000 in
theorem pX0_run_2_2 {S : k_S} {n dep : Nat} {nb : Int32} (hK : S.1 205 = nI 2) (hnb : S.1 204 = nb) (hran : S.1 203 = nI n) (hn : n + 4 ≤ 24) (hdep : dep + 3 ≤ 40) (x : Int32) : Sp 8 0 0 MX0_run [.ref 4, .int (nI 2), .int (x), .int (nI dep)] (hp S) (Rt (some (.int (((-(((x + nb) * nI 2))) - ((nI 1) ^^^ nb))))) (hp (trc S n [30, 10, 1, 11]))) := by
  refine Sp_of (by decide +kernel) (Nat.le_of_ble_eq_true rfl) ?_
  show AW none MX0_run 8 0 0 0 [.ref 4, .int (nI 2), .int (x), .int (nI dep)] [] (hp S) _
  refine k_iload_n eX0_run_0 rfl ?_
  refine k_look 123 eX0_run_1 (by decide) (off := 122) (by decide) (by decide) ?_
  refine k_aload_n eX0_run_123 rfl ?_
  refine k_iconst (v := nI 1) eX0_run_124 (by decide) ?_
  refine k_iload_n eX0_run_125 rfl ?_
  refine k_iload_n eX0_run_126 rfl ?_
  refine cV1 (M' := MX0_own) eX0_run_127 mX0_72 wX0_own vX0_own ⟨_, _, _, rfl, rfl, rfl⟩ rfl (pX0_own_2_1 (S := S) (n := n) (dep := dep) (nb := nb) hK hnb hran (by omega) (by omega) (x)) (by decide) (Nat.le_of_ble_eq_true rfl) ?_
  refine k_aload_n eX0_run_130 rfl ?_
  refine k_iconst (v := nI 2) eX0_run_131 (by decide) ?_
  refine k_iconst (v := nI 1) eX0_run_132 (by decide) ?_
  refine k_iload_n eX0_run_133 rfl ?_
  refine cV1 (M' := MX0_own) eX0_run_134 mX0_72 wX0_own vX0_own ⟨_, _, _, rfl, rfl, rfl⟩ rfl (pX0_own_2_2 (S := (trc S (n) [30, 10, 1])) (n := n + 3) (dep := dep) (nb := nb) (tK hK) (tN hnb) (tR hran) (by omega) (by omega) (nI 1)) (by decide) (Nat.le_of_ble_eq_true rfl) ?_
  refine k_isub eX0_run_137 ?_
  refine k_ireturn eX0_run_138 rfl rfl ?_
  exact ⟨rfl, congrArg hp (trc_app [30, 10, 1] S n [11]).symm⟩
set_option maxHeartbeats 400000 in
theorem pX0_ask_2_2_3 {S : k_S} {n dep : Nat} {nb : Int32} (hK : S.1 205 = nI 2) (hnb : S.1 204 = nb) (hran : S.1 203 = nI n) (hn : n + 5 ≤ 24) (hdep : dep + 4 ≤ 40) (x : Int32) : Sp 9 0 0 MX0_ask [.ref 4, .int (nI 2), .int (nI 3), .int (x), .int (nI dep)] (hp S) (Rt (some (.int (((-(((x + nb) * nI 2))) - ((nI 1) ^^^ nb))))) (hp (trc S n [2, 30, 10, 1, 11]))) := by
  refine Sp_of (by decide +kernel) (Nat.le_of_ble_eq_true rfl) ?_
  show AW none MX0_ask 9 0 0 0 [.ref 4, .int (nI 2), .int (nI 3), .int (x), .int (nI dep), .null, .null, .null] [] (hp S) _
  refine k_iload eX0_ask_0 rfl ?_
  refine k_bipush (v := nI 40) eX0_ask_2 (by decide) ?_
  refine k_icmp_leN 9 eX0_ask_4 (by decide) (by omega) (by omega) (fun c_4 => ?_) (fun c_4 => by exfalso; omega)
  refine k_iload_n eX0_ask_9 rfl ?_
  refine k_istore (L2 := [_, _, _, _, _, _, _, _]) eX0_ask_10 (Nat.le_of_ble_eq_true rfl) rfl ?_
  refine k_iconst (v := nI 0) eX0_ask_12 (by decide) ?_
  refine k_istore (L2 := [_, _, _, _, _, _, _, _]) eX0_ask_13 (Nat.le_of_ble_eq_true rfl) rfl ?_
  refine k_iload eX0_ask_15 rfl ?_
  refine k_bipush (v := nI 8) eX0_ask_17 (by decide) ?_
  refine k_icmp_gtN 88 eX0_ask_19 (by decide) (by omega) (by omega) (fun c_19 => by exfalso; omega) (fun c_19 => ?_)
  refine k_iload eX0_ask_22 rfl ?_
  refine k_if_ltN 88 eX0_ask_24 (by decide) (by omega) ?_
  refine k_iload eX0_ask_27 rfl ?_
  refine k_iload_n eX0_ask_29 rfl ?_
  refine cS1 (M' := MX0_bodyOf) eX0_ask_30 mX0_64 wX0_bodyOf sX0_bodyOf rfl (pX0_bodyOf (S := S) (k := 2) (s := 3) (by decide) (by decide)) (by decide) (Nat.le_of_ble_eq_true rfl) ?_
  refine k_topi (nI 0) (by decide) ?_
  refine k_istore (L2 := [_, _, _, _, _, _, _, _]) eX0_ask_33 (Nat.le_of_ble_eq_true rfl) rfl ?_
  refine k_iload eX0_ask_35 rfl ?_
  refine k_if_eqN 75 eX0_ask_37 (by decide) (by omega) (fun c_37 => ?_) (fun c_37 => by exfalso; omega)
  refine k_iload eX0_ask_75 rfl ?_
  refine cS1 (M' := MX0_above) eX0_ask_77 mX0_33 wX0_above sX0_above rfl (pX0_above (S := S) (k := 2) (by decide)) (by decide) (Nat.le_of_ble_eq_true rfl) ?_
  refine k_topi (nI 0) (by decide) ?_
  refine k_istore (L2 := [_, _, _, _, _, _, _, _]) eX0_ask_80 (Nat.le_of_ble_eq_true rfl) rfl ?_
  refine k_iincN (g := 1) (a := 0) (L2 := [_, _, _, _, _, _, _, _]) eX0_ask_82 (Nat.le_of_ble_eq_true rfl) rfl rfl ?_
  refine k_goto 15 eX0_ask_85 (by decide) ?_
  refine k_iload eX0_ask_15 rfl ?_
  refine k_bipush (v := nI 8) eX0_ask_17 (by decide) ?_
  refine k_icmp_gtN 88 eX0_ask_19 (by decide) (by omega) (by omega) (fun c_19 => by exfalso; omega) (fun c_19 => ?_)
  refine k_iload eX0_ask_22 rfl ?_
  refine k_if_ltN 88 eX0_ask_24 (by decide) (by omega) ?_
  refine k_iload eX0_ask_27 rfl ?_
  refine k_iload_n eX0_ask_29 rfl ?_
  refine cS1 (M' := MX0_bodyOf) eX0_ask_30 mX0_64 wX0_bodyOf sX0_bodyOf rfl (pX0_bodyOf (S := S) (k := 0) (s := 3) (by decide) (by decide)) (by decide) (Nat.le_of_ble_eq_true rfl) ?_
  refine k_topi (nI 0) (by decide) ?_
  refine k_istore (L2 := [_, _, _, _, _, _, _, _]) eX0_ask_33 (Nat.le_of_ble_eq_true rfl) rfl ?_
  refine k_iload eX0_ask_35 rfl ?_
  refine k_if_eqN 75 eX0_ask_37 (by decide) (by omega) (fun c_37 => ?_) (fun c_37 => by exfalso; omega)
  refine k_iload eX0_ask_75 rfl ?_
  refine cS1 (M' := MX0_above) eX0_ask_77 mX0_33 wX0_above sX0_above rfl (pX0_above (S := S) (k := 0) (by decide)) (by decide) (Nat.le_of_ble_eq_true rfl) ?_
  refine k_topi (nI 8) (by decide) ?_
  refine k_istore (L2 := [_, _, _, _, _, _, _, _]) eX0_ask_80 (Nat.le_of_ble_eq_true rfl) rfl ?_
  refine k_iincN (g := 1) (a := 1) (L2 := [_, _, _, _, _, _, _, _]) eX0_ask_82 (Nat.le_of_ble_eq_true rfl) rfl rfl ?_
  refine k_goto 15 eX0_ask_85 (by decide) ?_
  refine k_iload eX0_ask_15 rfl ?_
  refine k_bipush (v := nI 8) eX0_ask_17 (by decide) ?_
  refine k_icmp_gtN 88 eX0_ask_19 (by decide) (by omega) (by omega) (fun c_19 => by exfalso; omega) (fun c_19 => ?_)
  refine k_iload eX0_ask_22 rfl ?_
  refine k_if_ltN 88 eX0_ask_24 (by decide) (by omega) ?_
  refine k_iload eX0_ask_27 rfl ?_
  refine k_iload_n eX0_ask_29 rfl ?_
  refine cS1 (M' := MX0_bodyOf) eX0_ask_30 mX0_64 wX0_bodyOf sX0_bodyOf rfl (pX0_bodyOf (S := S) (k := 8) (s := 3) (by decide) (by decide)) (by decide) (Nat.le_of_ble_eq_true rfl) ?_
  refine k_topi (nI 2) (by decide) ?_
  refine k_istore (L2 := [_, _, _, _, _, _, _, _]) eX0_ask_33 (Nat.le_of_ble_eq_true rfl) rfl ?_
  refine k_iload eX0_ask_35 rfl ?_
  refine k_if_eqN 75 eX0_ask_37 (by decide) (by omega) (fun c_37 => by exfalso; omega) (fun c_37 => ?_)
  refine k_aload_n eX0_ask_40 rfl ?_
  refine GX0_19 eX0_ask_41 rfl ?_
  refine k_aload_n eX0_ask_44 rfl ?_
  refine GX0_22 eX0_ask_45 rfl ?_
  refine k_topi (nI n) hran ?_
  refine k_iload eX0_ask_48 rfl ?_
  refine cN0 (M' := MX11_write) eX0_ask_50 mX0_25 wX11_write sX11_write rfl (pX11_writeN (j := n) (v := nI 2) (ar6 _) (by omega) (by decide) (as6 _ _)) (by decide) (Nat.le_of_ble_eq_true rfl) ?_
  refine k_aload_n eX0_ask_53 rfl ?_
  refine k_dup eX0_ask_54 rfl ?_
  refine GX0_22 eX0_ask_55 rfl ?_
  refine k_topi (nI n) hran ?_
  refine k_iconst (v := nI 1) eX0_ask_58 (by decide) ?_
  refine k_iaddN eX0_ask_59 ?_
  refine PX0_22 eX0_ask_60 rfl ?_
  refine k_heap (h2 := hp (trc1 S n 2)) rfl ?_
  refine k_aload_n eX0_ask_63 rfl ?_
  refine k_iload eX0_ask_64 rfl ?_
  refine k_iload_n eX0_ask_66 rfl ?_
  refine k_iload eX0_ask_67 rfl ?_
  refine k_iconst (v := nI 1) eX0_ask_69 (by decide) ?_
  refine k_iaddN eX0_ask_70 ?_
  refine cV1 (M' := MX0_run) eX0_ask_71 mX0_68 wX0_run vX0_run ⟨_, _, _, rfl, rfl, rfl⟩ rfl (pX0_run_2_2 (S := (trc1 S n 2)) (n := n + 1) (dep := (dep + 1)) (nb := nb) (t1K hK) (t1N hnb) rfl (by omega) (by omega) (x)) (by decide) (Nat.le_of_ble_eq_true rfl) ?_
  refine k_ireturn eX0_ask_74 rfl rfl ?_
  exact ⟨rfl, congrArg hp (trc_cons S n 2 [30, 10, 1, 11]).symm⟩
set_option maxHeartbeats 400000 in
theorem pX0_run_3_1 {S : k_S} {n dep : Nat} {nb : Int32} (hK : S.1 205 = nI 3) (hnb : S.1 204 = nb) (hran : S.1 203 = nI n) (hn : n + 0 ≤ 24) (hdep : dep + 0 ≤ 40) (x : Int32) : Sp 0 0 0 MX0_run [.ref 4, .int (nI 1), .int (x), .int (nI dep)] (hp S) (Rt (some (.int ((x + nb)))) (hp S)) := by
  refine Sp_of (by decide +kernel) (Nat.le_of_ble_eq_true rfl) ?_
  show AW none MX0_run 0 0 0 0 [.ref 4, .int (nI 1), .int (x), .int (nI dep)] [] (hp S) _
  refine k_iload_n eX0_run_0 rfl ?_
  refine k_look 116 eX0_run_1 (by decide) (off := 115) (by decide) (by decide) ?_
  refine k_iload_n eX0_run_116 rfl ?_
  refine k_aload_n eX0_run_117 rfl ?_
  refine GX0_45 eX0_run_118 rfl ?_
  refine k_topi (nb) hnb ?_
  refine k_iadd eX0_run_121 ?_
  refine k_ireturn eX0_run_122 rfl rfl ?_
  exact ⟨rfl, rfl⟩
set_option maxHeartbeats 400000 in
theorem pX0_ask_3_2_0 {S : k_S} {n dep : Nat} {nb : Int32} (hK : S.1 205 = nI 3) (hnb : S.1 204 = nb) (hran : S.1 203 = nI n) (hn : n + 1 ≤ 24) (hdep : dep + 1 ≤ 40) (x : Int32) : Sp 1 0 0 MX0_ask [.ref 4, .int (nI 2), .int (nI 0), .int (x), .int (nI dep)] (hp S) (Rt (some (.int ((x + nb)))) (hp (trc S n [1]))) := by
  refine Sp_of (by decide +kernel) (Nat.le_of_ble_eq_true rfl) ?_
  show AW none MX0_ask 1 0 0 0 [.ref 4, .int (nI 2), .int (nI 0), .int (x), .int (nI dep), .null, .null, .null] [] (hp S) _
  refine k_iload eX0_ask_0 rfl ?_
  refine k_bipush (v := nI 40) eX0_ask_2 (by decide) ?_
  refine k_icmp_leN 9 eX0_ask_4 (by decide) (by omega) (by omega) (fun c_4 => ?_) (fun c_4 => by exfalso; omega)
  refine k_iload_n eX0_ask_9 rfl ?_
  refine k_istore (L2 := [_, _, _, _, _, _, _, _]) eX0_ask_10 (Nat.le_of_ble_eq_true rfl) rfl ?_
  refine k_iconst (v := nI 0) eX0_ask_12 (by decide) ?_
  refine k_istore (L2 := [_, _, _, _, _, _, _, _]) eX0_ask_13 (Nat.le_of_ble_eq_true rfl) rfl ?_
  refine k_iload eX0_ask_15 rfl ?_
  refine k_bipush (v := nI 8) eX0_ask_17 (by decide) ?_
  refine k_icmp_gtN 88 eX0_ask_19 (by decide) (by omega) (by omega) (fun c_19 => by exfalso; omega) (fun c_19 => ?_)
  refine k_iload eX0_ask_22 rfl ?_
  refine k_if_ltN 88 eX0_ask_24 (by decide) (by omega) ?_
  refine k_iload eX0_ask_27 rfl ?_
  refine k_iload_n eX0_ask_29 rfl ?_
  refine cS1 (M' := MX0_bodyOf) eX0_ask_30 mX0_64 wX0_bodyOf sX0_bodyOf rfl (pX0_bodyOf (S := S) (k := 2) (s := 0) (by decide) (by decide)) (by decide) (Nat.le_of_ble_eq_true rfl) ?_
  refine k_topi (nI 0) (by decide) ?_
  refine k_istore (L2 := [_, _, _, _, _, _, _, _]) eX0_ask_33 (Nat.le_of_ble_eq_true rfl) rfl ?_
  refine k_iload eX0_ask_35 rfl ?_
  refine k_if_eqN 75 eX0_ask_37 (by decide) (by omega) (fun c_37 => ?_) (fun c_37 => by exfalso; omega)
  refine k_iload eX0_ask_75 rfl ?_
  refine cS1 (M' := MX0_above) eX0_ask_77 mX0_33 wX0_above sX0_above rfl (pX0_above (S := S) (k := 2) (by decide)) (by decide) (Nat.le_of_ble_eq_true rfl) ?_
  refine k_topi (nI 0) (by decide) ?_
  refine k_istore (L2 := [_, _, _, _, _, _, _, _]) eX0_ask_80 (Nat.le_of_ble_eq_true rfl) rfl ?_
  refine k_iincN (g := 1) (a := 0) (L2 := [_, _, _, _, _, _, _, _]) eX0_ask_82 (Nat.le_of_ble_eq_true rfl) rfl rfl ?_
  refine k_goto 15 eX0_ask_85 (by decide) ?_
  refine k_iload eX0_ask_15 rfl ?_
  refine k_bipush (v := nI 8) eX0_ask_17 (by decide) ?_
  refine k_icmp_gtN 88 eX0_ask_19 (by decide) (by omega) (by omega) (fun c_19 => by exfalso; omega) (fun c_19 => ?_)
  refine k_iload eX0_ask_22 rfl ?_
  refine k_if_ltN 88 eX0_ask_24 (by decide) (by omega) ?_
  refine k_iload eX0_ask_27 rfl ?_
  refine k_iload_n eX0_ask_29 rfl ?_
  refine cS1 (M' := MX0_bodyOf) eX0_ask_30 mX0_64 wX0_bodyOf sX0_bodyOf rfl (pX0_bodyOf (S := S) (k := 0) (s := 0) (by decide) (by decide)) (by decide) (Nat.le_of_ble_eq_true rfl) ?_
  refine k_topi (nI 0) (by decide) ?_
  refine k_istore (L2 := [_, _, _, _, _, _, _, _]) eX0_ask_33 (Nat.le_of_ble_eq_true rfl) rfl ?_
  refine k_iload eX0_ask_35 rfl ?_
  refine k_if_eqN 75 eX0_ask_37 (by decide) (by omega) (fun c_37 => ?_) (fun c_37 => by exfalso; omega)
  refine k_iload eX0_ask_75 rfl ?_
  refine cS1 (M' := MX0_above) eX0_ask_77 mX0_33 wX0_above sX0_above rfl (pX0_above (S := S) (k := 0) (by decide)) (by decide) (Nat.le_of_ble_eq_true rfl) ?_
  refine k_topi (nI 8) (by decide) ?_
  refine k_istore (L2 := [_, _, _, _, _, _, _, _]) eX0_ask_80 (Nat.le_of_ble_eq_true rfl) rfl ?_
  refine k_iincN (g := 1) (a := 1) (L2 := [_, _, _, _, _, _, _, _]) eX0_ask_82 (Nat.le_of_ble_eq_true rfl) rfl rfl ?_
  refine k_goto 15 eX0_ask_85 (by decide) ?_
  refine k_iload eX0_ask_15 rfl ?_
  refine k_bipush (v := nI 8) eX0_ask_17 (by decide) ?_
  refine k_icmp_gtN 88 eX0_ask_19 (by decide) (by omega) (by omega) (fun c_19 => by exfalso; omega) (fun c_19 => ?_)
  refine k_iload eX0_ask_22 rfl ?_
  refine k_if_ltN 88 eX0_ask_24 (by decide) (by omega) ?_
  refine k_iload eX0_ask_27 rfl ?_
  refine k_iload_n eX0_ask_29 rfl ?_
  refine cS1 (M' := MX0_bodyOf) eX0_ask_30 mX0_64 wX0_bodyOf sX0_bodyOf rfl (pX0_bodyOf (S := S) (k := 8) (s := 0) (by decide) (by decide)) (by decide) (Nat.le_of_ble_eq_true rfl) ?_
  refine k_topi (nI 1) (by decide) ?_
  refine k_istore (L2 := [_, _, _, _, _, _, _, _]) eX0_ask_33 (Nat.le_of_ble_eq_true rfl) rfl ?_
  refine k_iload eX0_ask_35 rfl ?_
  refine k_if_eqN 75 eX0_ask_37 (by decide) (by omega) (fun c_37 => by exfalso; omega) (fun c_37 => ?_)
  refine k_aload_n eX0_ask_40 rfl ?_
  refine GX0_19 eX0_ask_41 rfl ?_
  refine k_aload_n eX0_ask_44 rfl ?_
  refine GX0_22 eX0_ask_45 rfl ?_
  refine k_topi (nI n) hran ?_
  refine k_iload eX0_ask_48 rfl ?_
  refine cN0 (M' := MX11_write) eX0_ask_50 mX0_25 wX11_write sX11_write rfl (pX11_writeN (j := n) (v := nI 1) (ar6 _) (by omega) (by decide) (as6 _ _)) (by decide) (Nat.le_of_ble_eq_true rfl) ?_
  refine k_aload_n eX0_ask_53 rfl ?_
  refine k_dup eX0_ask_54 rfl ?_
  refine GX0_22 eX0_ask_55 rfl ?_
  refine k_topi (nI n) hran ?_
  refine k_iconst (v := nI 1) eX0_ask_58 (by decide) ?_
  refine k_iaddN eX0_ask_59 ?_
  refine PX0_22 eX0_ask_60 rfl ?_
  refine k_heap (h2 := hp (trc1 S n 1)) rfl ?_
  refine k_aload_n eX0_ask_63 rfl ?_
  refine k_iload eX0_ask_64 rfl ?_
  refine k_iload_n eX0_ask_66 rfl ?_
  refine k_iload eX0_ask_67 rfl ?_
  refine k_iconst (v := nI 1) eX0_ask_69 (by decide) ?_
  refine k_iaddN eX0_ask_70 ?_
  refine cV1 (M' := MX0_run) eX0_ask_71 mX0_68 wX0_run vX0_run ⟨_, _, _, rfl, rfl, rfl⟩ rfl (pX0_run_3_1 (S := (trc1 S n 1)) (n := n + 1) (dep := (dep + 1)) (nb := nb) (t1K hK) (t1N hnb) rfl (by omega) (by omega) (x)) (by decide) (Nat.le_of_ble_eq_true rfl) ?_
  refine k_ireturn eX0_ask_74 rfl rfl ?_
  exact ⟨rfl, rfl⟩
set_option maxHeartbeats 400000 in
theorem pX0_run_3_41 {S : k_S} {n dep : Nat} {nb : Int32} (hK : S.1 205 = nI 3) (hnb : S.1 204 = nb) (hran : S.1 203 = nI n) (hn : n + 1 ≤ 24) (hdep : dep + 1 ≤ 40) (x : Int32) : Sp 2 0 0 MX0_run [.ref 4, .int (nI 41), .int (x), .int (nI dep)] (hp S) (Rt (some (.int (((x + nI 1) + nb)))) (hp (trc S n [1]))) := by
  refine Sp_of (by decide +kernel) (Nat.le_of_ble_eq_true rfl) ?_
  show AW none MX0_run 2 0 0 0 [.ref 4, .int (nI 41), .int (x), .int (nI dep)] [] (hp S) _
  refine k_iload_n eX0_run_0 rfl ?_
  refine k_look 197 eX0_run_1 (by decide) (off := 196) (by decide) (by decide) ?_
  refine k_aload_n eX0_run_197 rfl ?_
  refine k_iconst (v := nI 3) eX0_run_198 (by decide) ?_
  refine cS1 (M' := MX0_above) eX0_run_199 mX0_33 wX0_above sX0_above rfl (pX0_above (S := S) (k := 3) (by decide)) (by decide) (Nat.le_of_ble_eq_true rfl) ?_
  refine k_topi (nI 2) (by decide) ?_
  refine k_iconst (v := nI 0) eX0_run_202 (by decide) ?_
  refine k_iload_n eX0_run_203 rfl ?_
  refine k_iconst (v := nI 1) eX0_run_204 (by decide) ?_
  refine k_iadd eX0_run_205 ?_
  refine k_iload_n eX0_run_206 rfl ?_
  refine cV1 (M' := MX0_ask) eX0_run_207 mX0_54 wX0_ask vX0_ask ⟨_, _, _, rfl, rfl, rfl⟩ rfl (pX0_ask_3_2_0 (S := S) (n := n) (dep := dep) (nb := nb) hK hnb hran (by omega) (by omega) ((x + nI 1))) (by decide) (Nat.le_of_ble_eq_true rfl) ?_
  refine k_ireturn eX0_run_210 rfl rfl ?_
  exact ⟨rfl, rfl⟩
set_option maxHeartbeats 400000 in
theorem pX0_ask_3_3_0 {S : k_S} {n dep : Nat} {nb : Int32} (hK : S.1 205 = nI 3) (hnb : S.1 204 = nb) (hran : S.1 203 = nI n) (hn : n + 2 ≤ 24) (hdep : dep + 2 ≤ 40) (x : Int32) : Sp 3 0 0 MX0_ask [.ref 4, .int (nI 3), .int (nI 0), .int (x), .int (nI dep)] (hp S) (Rt (some (.int (((x + nI 1) + nb)))) (hp (trc S n [41, 1]))) := by
  refine Sp_of (by decide +kernel) (Nat.le_of_ble_eq_true rfl) ?_
  show AW none MX0_ask 3 0 0 0 [.ref 4, .int (nI 3), .int (nI 0), .int (x), .int (nI dep), .null, .null, .null] [] (hp S) _
  refine k_iload eX0_ask_0 rfl ?_
  refine k_bipush (v := nI 40) eX0_ask_2 (by decide) ?_
  refine k_icmp_leN 9 eX0_ask_4 (by decide) (by omega) (by omega) (fun c_4 => ?_) (fun c_4 => by exfalso; omega)
  refine k_iload_n eX0_ask_9 rfl ?_
  refine k_istore (L2 := [_, _, _, _, _, _, _, _]) eX0_ask_10 (Nat.le_of_ble_eq_true rfl) rfl ?_
  refine k_iconst (v := nI 0) eX0_ask_12 (by decide) ?_
  refine k_istore (L2 := [_, _, _, _, _, _, _, _]) eX0_ask_13 (Nat.le_of_ble_eq_true rfl) rfl ?_
  refine k_iload eX0_ask_15 rfl ?_
  refine k_bipush (v := nI 8) eX0_ask_17 (by decide) ?_
  refine k_icmp_gtN 88 eX0_ask_19 (by decide) (by omega) (by omega) (fun c_19 => by exfalso; omega) (fun c_19 => ?_)
  refine k_iload eX0_ask_22 rfl ?_
  refine k_if_ltN 88 eX0_ask_24 (by decide) (by omega) ?_
  refine k_iload eX0_ask_27 rfl ?_
  refine k_iload_n eX0_ask_29 rfl ?_
  refine cS1 (M' := MX0_bodyOf) eX0_ask_30 mX0_64 wX0_bodyOf sX0_bodyOf rfl (pX0_bodyOf (S := S) (k := 3) (s := 0) (by decide) (by decide)) (by decide) (Nat.le_of_ble_eq_true rfl) ?_
  refine k_topi (nI 41) (by decide) ?_
  refine k_istore (L2 := [_, _, _, _, _, _, _, _]) eX0_ask_33 (Nat.le_of_ble_eq_true rfl) rfl ?_
  refine k_iload eX0_ask_35 rfl ?_
  refine k_if_eqN 75 eX0_ask_37 (by decide) (by omega) (fun c_37 => by exfalso; omega) (fun c_37 => ?_)
  refine k_aload_n eX0_ask_40 rfl ?_
  refine GX0_19 eX0_ask_41 rfl ?_
  refine k_aload_n eX0_ask_44 rfl ?_
  refine GX0_22 eX0_ask_45 rfl ?_
  refine k_topi (nI n) hran ?_
  refine k_iload eX0_ask_48 rfl ?_
  refine cN0 (M' := MX11_write) eX0_ask_50 mX0_25 wX11_write sX11_write rfl (pX11_writeN (j := n) (v := nI 41) (ar6 _) (by omega) (by decide) (as6 _ _)) (by decide) (Nat.le_of_ble_eq_true rfl) ?_
  refine k_aload_n eX0_ask_53 rfl ?_
  refine k_dup eX0_ask_54 rfl ?_
  refine GX0_22 eX0_ask_55 rfl ?_
  refine k_topi (nI n) hran ?_
  refine k_iconst (v := nI 1) eX0_ask_58 (by decide) ?_
  refine k_iaddN eX0_ask_59 ?_
  refine PX0_22 eX0_ask_60 rfl ?_
  refine k_heap (h2 := hp (trc1 S n 41)) rfl ?_
  refine k_aload_n eX0_ask_63 rfl ?_
  refine k_iload eX0_ask_64 rfl ?_
  refine k_iload_n eX0_ask_66 rfl ?_
  refine k_iload eX0_ask_67 rfl ?_
  refine k_iconst (v := nI 1) eX0_ask_69 (by decide) ?_
  refine k_iaddN eX0_ask_70 ?_
  refine cV1 (M' := MX0_run) eX0_ask_71 mX0_68 wX0_run vX0_run ⟨_, _, _, rfl, rfl, rfl⟩ rfl (pX0_run_3_41 (S := (trc1 S n 41)) (n := n + 1) (dep := (dep + 1)) (nb := nb) (t1K hK) (t1N hnb) rfl (by omega) (by omega) (x)) (by decide) (Nat.le_of_ble_eq_true rfl) ?_
  refine k_ireturn eX0_ask_74 rfl rfl ?_
  exact ⟨rfl, congrArg hp (trc_cons S n 41 [1]).symm⟩
set_option maxHeartbeats 400000 in
theorem pX0_own_3_0 {S : k_S} {n dep : Nat} {nb : Int32} (hK : S.1 205 = nI 3) (hnb : S.1 204 = nb) (hran : S.1 203 = nI n) (hn : n + 2 ≤ 24) (hdep : dep + 2 ≤ 40) (x : Int32) : Sp 4 0 0 MX0_own [.ref 4, .int (nI 0), .int (x), .int (nI dep)] (hp S) (Rt (some (.int (((x + nI 1) + nb)))) (hp (trc S n [41, 1]))) := by
  refine Sp_of (by decide +kernel) (Nat.le_of_ble_eq_true rfl) ?_
  show AW none MX0_own 4 0 0 0 [.ref 4, .int (nI 0), .int (x), .int (nI dep)] [] (hp S) _
  refine k_aload_n eX0_own_0 rfl ?_
  refine k_aload_n eX0_own_1 rfl ?_
  refine GX0_51 eX0_own_2 rfl ?_
  refine k_topi (nI 3) hK ?_
  refine k_iload_n eX0_own_5 rfl ?_
  refine k_iload_n eX0_own_6 rfl ?_
  refine k_iload_n eX0_own_7 rfl ?_
  refine cV1 (M' := MX0_ask) eX0_own_8 mX0_54 wX0_ask vX0_ask ⟨_, _, _, rfl, rfl, rfl⟩ rfl (pX0_ask_3_3_0 (S := S) (n := n) (dep := dep) (nb := nb) hK hnb hran (by omega) (by omega) (x)) (by decide) (Nat.le_of_ble_eq_true rfl) ?_
  refine k_ireturn eX0_own_11 rfl rfl ?_
  exact ⟨rfl, rfl⟩
set_option maxHeartbeats 400000 in
theorem pX0_run_3_10 {S : k_S} {n dep : Nat} {nb : Int32} (hK : S.1 205 = nI 3) (hnb : S.1 204 = nb) (hran : S.1 203 = nI n) (hn : n + 2 ≤ 24) (hdep : dep + 2 ≤ 40) (x : Int32) : Sp 5 0 0 MX0_run [.ref 4, .int (nI 10), .int (x), .int (nI dep)] (hp S) (Rt (some (.int ((((x + nI 1) + nb) * nI 2)))) (hp (trc S n [41, 1]))) := by
  refine Sp_of (by decide +kernel) (Nat.le_of_ble_eq_true rfl) ?_
  show AW none MX0_run 5 0 0 0 [.ref 4, .int (nI 10), .int (x), .int (nI dep)] [] (hp S) _
  refine k_iload_n eX0_run_0 rfl ?_
  refine k_look 139 eX0_run_1 (by decide) (off := 138) (by decide) (by decide) ?_
  refine k_aload_n eX0_run_139 rfl ?_
  refine k_iconst (v := nI 0) eX0_run_140 (by decide) ?_
  refine k_iload_n eX0_run_141 rfl ?_
  refine k_iload_n eX0_run_142 rfl ?_
  refine cV1 (M' := MX0_own) eX0_run_143 mX0_72 wX0_own vX0_own ⟨_, _, _, rfl, rfl, rfl⟩ rfl (pX0_own_3_0 (S := S) (n := n) (dep := dep) (nb := nb) hK hnb hran (by omega) (by omega) (x)) (by decide) (Nat.le_of_ble_eq_true rfl) ?_
  refine k_iconst (v := nI 2) eX0_run_146 (by decide) ?_
  refine k_imul eX0_run_147 ?_
  refine k_ireturn eX0_run_148 rfl rfl ?_
  exact ⟨rfl, rfl⟩
set_option maxHeartbeats 400000 in
theorem pX0_ask_3_0_1 {S : k_S} {n dep : Nat} {nb : Int32} (hK : S.1 205 = nI 3) (hnb : S.1 204 = nb) (hran : S.1 203 = nI n) (hn : n + 3 ≤ 24) (hdep : dep + 3 ≤ 40) (x : Int32) : Sp 6 0 0 MX0_ask [.ref 4, .int (nI 0), .int (nI 1), .int (x), .int (nI dep)] (hp S) (Rt (some (.int ((((x + nI 1) + nb) * nI 2)))) (hp (trc S n [10, 41, 1]))) := by
  refine Sp_of (by decide +kernel) (Nat.le_of_ble_eq_true rfl) ?_
  show AW none MX0_ask 6 0 0 0 [.ref 4, .int (nI 0), .int (nI 1), .int (x), .int (nI dep), .null, .null, .null] [] (hp S) _
  refine k_iload eX0_ask_0 rfl ?_
  refine k_bipush (v := nI 40) eX0_ask_2 (by decide) ?_
  refine k_icmp_leN 9 eX0_ask_4 (by decide) (by omega) (by omega) (fun c_4 => ?_) (fun c_4 => by exfalso; omega)
  refine k_iload_n eX0_ask_9 rfl ?_
  refine k_istore (L2 := [_, _, _, _, _, _, _, _]) eX0_ask_10 (Nat.le_of_ble_eq_true rfl) rfl ?_
  refine k_iconst (v := nI 0) eX0_ask_12 (by decide) ?_
  refine k_istore (L2 := [_, _, _, _, _, _, _, _]) eX0_ask_13 (Nat.le_of_ble_eq_true rfl) rfl ?_
  refine k_iload eX0_ask_15 rfl ?_
  refine k_bipush (v := nI 8) eX0_ask_17 (by decide) ?_
  refine k_icmp_gtN 88 eX0_ask_19 (by decide) (by omega) (by omega) (fun c_19 => by exfalso; omega) (fun c_19 => ?_)
  refine k_iload eX0_ask_22 rfl ?_
  refine k_if_ltN 88 eX0_ask_24 (by decide) (by omega) ?_
  refine k_iload eX0_ask_27 rfl ?_
  refine k_iload_n eX0_ask_29 rfl ?_
  refine cS1 (M' := MX0_bodyOf) eX0_ask_30 mX0_64 wX0_bodyOf sX0_bodyOf rfl (pX0_bodyOf (S := S) (k := 0) (s := 1) (by decide) (by decide)) (by decide) (Nat.le_of_ble_eq_true rfl) ?_
  refine k_topi (nI 10) (by decide) ?_
  refine k_istore (L2 := [_, _, _, _, _, _, _, _]) eX0_ask_33 (Nat.le_of_ble_eq_true rfl) rfl ?_
  refine k_iload eX0_ask_35 rfl ?_
  refine k_if_eqN 75 eX0_ask_37 (by decide) (by omega) (fun c_37 => by exfalso; omega) (fun c_37 => ?_)
  refine k_aload_n eX0_ask_40 rfl ?_
  refine GX0_19 eX0_ask_41 rfl ?_
  refine k_aload_n eX0_ask_44 rfl ?_
  refine GX0_22 eX0_ask_45 rfl ?_
  refine k_topi (nI n) hran ?_
  refine k_iload eX0_ask_48 rfl ?_
  refine cN0 (M' := MX11_write) eX0_ask_50 mX0_25 wX11_write sX11_write rfl (pX11_writeN (j := n) (v := nI 10) (ar6 _) (by omega) (by decide) (as6 _ _)) (by decide) (Nat.le_of_ble_eq_true rfl) ?_
  refine k_aload_n eX0_ask_53 rfl ?_
  refine k_dup eX0_ask_54 rfl ?_
  refine GX0_22 eX0_ask_55 rfl ?_
  refine k_topi (nI n) hran ?_
  refine k_iconst (v := nI 1) eX0_ask_58 (by decide) ?_
  refine k_iaddN eX0_ask_59 ?_
  refine PX0_22 eX0_ask_60 rfl ?_
  refine k_heap (h2 := hp (trc1 S n 10)) rfl ?_
  refine k_aload_n eX0_ask_63 rfl ?_
  refine k_iload eX0_ask_64 rfl ?_
  refine k_iload_n eX0_ask_66 rfl ?_
  refine k_iload eX0_ask_67 rfl ?_
  refine k_iconst (v := nI 1) eX0_ask_69 (by decide) ?_
  refine k_iaddN eX0_ask_70 ?_
  refine cV1 (M' := MX0_run) eX0_ask_71 mX0_68 wX0_run vX0_run ⟨_, _, _, rfl, rfl, rfl⟩ rfl (pX0_run_3_10 (S := (trc1 S n 10)) (n := n + 1) (dep := (dep + 1)) (nb := nb) (t1K hK) (t1N hnb) rfl (by omega) (by omega) (x)) (by decide) (Nat.le_of_ble_eq_true rfl) ?_
  refine k_ireturn eX0_ask_74 rfl rfl ?_
  exact ⟨rfl, congrArg hp (trc_cons S n 10 [41, 1]).symm⟩
set_option maxHeartbeats 400000 in
theorem pX0_run_3_30 {S : k_S} {n dep : Nat} {nb : Int32} (hK : S.1 205 = nI 3) (hnb : S.1 204 = nb) (hran : S.1 203 = nI n) (hn : n + 3 ≤ 24) (hdep : dep + 3 ≤ 40) (x : Int32) : Sp 7 0 0 MX0_run [.ref 4, .int (nI 30), .int (x), .int (nI dep)] (hp S) (Rt (some (.int ((-((((x + nI 1) + nb) * nI 2)))))) (hp (trc S n [10, 41, 1]))) := by
  refine Sp_of (by decide +kernel) (Nat.le_of_ble_eq_true rfl) ?_
  show AW none MX0_run 7 0 0 0 [.ref 4, .int (nI 30), .int (x), .int (nI dep)] [] (hp S) _
  refine k_iload_n eX0_run_0 rfl ?_
  refine k_look 170 eX0_run_1 (by decide) (off := 169) (by decide) (by decide) ?_
  refine k_aload_n eX0_run_170 rfl ?_
  refine k_iconst (v := nI 2) eX0_run_171 (by decide) ?_
  refine cS1 (M' := MX0_above) eX0_run_172 mX0_33 wX0_above sX0_above rfl (pX0_above (S := S) (k := 2) (by decide)) (by decide) (Nat.le_of_ble_eq_true rfl) ?_
  refine k_topi (nI 0) (by decide) ?_
  refine k_iconst (v := nI 1) eX0_run_175 (by decide) ?_
  refine k_iload_n eX0_run_176 rfl ?_
  refine k_iload_n eX0_run_177 rfl ?_
  refine cV1 (M' := MX0_ask) eX0_run_178 mX0_54 wX0_ask vX0_ask ⟨_, _, _, rfl, rfl, rfl⟩ rfl (pX0_ask_3_0_1 (S := S) (n := n) (dep := dep) (nb := nb) hK hnb hran (by omega) (by omega) (x)) (by decide) (Nat.le_of_ble_eq_true rfl) ?_
  refine k_ineg eX0_run_181 ?_
  refine k_ireturn eX0_run_182 rfl rfl ?_
  exact ⟨rfl, rfl⟩
set_option maxHeartbeats 400000 in
theorem pX0_ask_3_3_1 {S : k_S} {n dep : Nat} {nb : Int32} (hK : S.1 205 = nI 3) (hnb : S.1 204 = nb) (hran : S.1 203 = nI n) (hn : n + 4 ≤ 24) (hdep : dep + 4 ≤ 40) (x : Int32) : Sp 8 0 0 MX0_ask [.ref 4, .int (nI 3), .int (nI 1), .int (x), .int (nI dep)] (hp S) (Rt (some (.int ((-((((x + nI 1) + nb) * nI 2)))))) (hp (trc S n [30, 10, 41, 1]))) := by
  refine Sp_of (by decide +kernel) (Nat.le_of_ble_eq_true rfl) ?_
  show AW none MX0_ask 8 0 0 0 [.ref 4, .int (nI 3), .int (nI 1), .int (x), .int (nI dep), .null, .null, .null] [] (hp S) _
  refine k_iload eX0_ask_0 rfl ?_
  refine k_bipush (v := nI 40) eX0_ask_2 (by decide) ?_
  refine k_icmp_leN 9 eX0_ask_4 (by decide) (by omega) (by omega) (fun c_4 => ?_) (fun c_4 => by exfalso; omega)
  refine k_iload_n eX0_ask_9 rfl ?_
  refine k_istore (L2 := [_, _, _, _, _, _, _, _]) eX0_ask_10 (Nat.le_of_ble_eq_true rfl) rfl ?_
  refine k_iconst (v := nI 0) eX0_ask_12 (by decide) ?_
  refine k_istore (L2 := [_, _, _, _, _, _, _, _]) eX0_ask_13 (Nat.le_of_ble_eq_true rfl) rfl ?_
  refine k_iload eX0_ask_15 rfl ?_
  refine k_bipush (v := nI 8) eX0_ask_17 (by decide) ?_
  refine k_icmp_gtN 88 eX0_ask_19 (by decide) (by omega) (by omega) (fun c_19 => by exfalso; omega) (fun c_19 => ?_)
  refine k_iload eX0_ask_22 rfl ?_
  refine k_if_ltN 88 eX0_ask_24 (by decide) (by omega) ?_
  refine k_iload eX0_ask_27 rfl ?_
  refine k_iload_n eX0_ask_29 rfl ?_
  refine cS1 (M' := MX0_bodyOf) eX0_ask_30 mX0_64 wX0_bodyOf sX0_bodyOf rfl (pX0_bodyOf (S := S) (k := 3) (s := 1) (by decide) (by decide)) (by decide) (Nat.le_of_ble_eq_true rfl) ?_
  refine k_topi (nI 0) (by decide) ?_
  refine k_istore (L2 := [_, _, _, _, _, _, _, _]) eX0_ask_33 (Nat.le_of_ble_eq_true rfl) rfl ?_
  refine k_iload eX0_ask_35 rfl ?_
  refine k_if_eqN 75 eX0_ask_37 (by decide) (by omega) (fun c_37 => ?_) (fun c_37 => by exfalso; omega)
  refine k_iload eX0_ask_75 rfl ?_
  refine cS1 (M' := MX0_above) eX0_ask_77 mX0_33 wX0_above sX0_above rfl (pX0_above (S := S) (k := 3) (by decide)) (by decide) (Nat.le_of_ble_eq_true rfl) ?_
  refine k_topi (nI 2) (by decide) ?_
  refine k_istore (L2 := [_, _, _, _, _, _, _, _]) eX0_ask_80 (Nat.le_of_ble_eq_true rfl) rfl ?_
  refine k_iincN (g := 1) (a := 0) (L2 := [_, _, _, _, _, _, _, _]) eX0_ask_82 (Nat.le_of_ble_eq_true rfl) rfl rfl ?_
  refine k_goto 15 eX0_ask_85 (by decide) ?_
  refine k_iload eX0_ask_15 rfl ?_
  refine k_bipush (v := nI 8) eX0_ask_17 (by decide) ?_
  refine k_icmp_gtN 88 eX0_ask_19 (by decide) (by omega) (by omega) (fun c_19 => by exfalso; omega) (fun c_19 => ?_)
  refine k_iload eX0_ask_22 rfl ?_
  refine k_if_ltN 88 eX0_ask_24 (by decide) (by omega) ?_
  refine k_iload eX0_ask_27 rfl ?_
  refine k_iload_n eX0_ask_29 rfl ?_
  refine cS1 (M' := MX0_bodyOf) eX0_ask_30 mX0_64 wX0_bodyOf sX0_bodyOf rfl (pX0_bodyOf (S := S) (k := 2) (s := 1) (by decide) (by decide)) (by decide) (Nat.le_of_ble_eq_true rfl) ?_
  refine k_topi (nI 30) (by decide) ?_
  refine k_istore (L2 := [_, _, _, _, _, _, _, _]) eX0_ask_33 (Nat.le_of_ble_eq_true rfl) rfl ?_
  refine k_iload eX0_ask_35 rfl ?_
  refine k_if_eqN 75 eX0_ask_37 (by decide) (by omega) (fun c_37 => by exfalso; omega) (fun c_37 => ?_)
  refine k_aload_n eX0_ask_40 rfl ?_
  refine GX0_19 eX0_ask_41 rfl ?_
  refine k_aload_n eX0_ask_44 rfl ?_
  refine GX0_22 eX0_ask_45 rfl ?_
  refine k_topi (nI n) hran ?_
  refine k_iload eX0_ask_48 rfl ?_
  refine cN0 (M' := MX11_write) eX0_ask_50 mX0_25 wX11_write sX11_write rfl (pX11_writeN (j := n) (v := nI 30) (ar6 _) (by omega) (by decide) (as6 _ _)) (by decide) (Nat.le_of_ble_eq_true rfl) ?_
  refine k_aload_n eX0_ask_53 rfl ?_
  refine k_dup eX0_ask_54 rfl ?_
  refine GX0_22 eX0_ask_55 rfl ?_
  refine k_topi (nI n) hran ?_
  refine k_iconst (v := nI 1) eX0_ask_58 (by decide) ?_
  refine k_iaddN eX0_ask_59 ?_
  refine PX0_22 eX0_ask_60 rfl ?_
  refine k_heap (h2 := hp (trc1 S n 30)) rfl ?_
  refine k_aload_n eX0_ask_63 rfl ?_
  refine k_iload eX0_ask_64 rfl ?_
  refine k_iload_n eX0_ask_66 rfl ?_
  refine k_iload eX0_ask_67 rfl ?_
  refine k_iconst (v := nI 1) eX0_ask_69 (by decide) ?_
  refine k_iaddN eX0_ask_70 ?_
  refine cV1 (M' := MX0_run) eX0_ask_71 mX0_68 wX0_run vX0_run ⟨_, _, _, rfl, rfl, rfl⟩ rfl (pX0_run_3_30 (S := (trc1 S n 30)) (n := n + 1) (dep := (dep + 1)) (nb := nb) (t1K hK) (t1N hnb) rfl (by omega) (by omega) (x)) (by decide) (Nat.le_of_ble_eq_true rfl) ?_
  refine k_ireturn eX0_ask_74 rfl rfl ?_
  exact ⟨rfl, congrArg hp (trc_cons S n 30 [10, 41, 1]).symm⟩
set_option maxHeartbeats 400000 in
theorem pX0_run_3_11 {S : k_S} {n dep : Nat} {nb : Int32} (hK : S.1 205 = nI 3) (hnb : S.1 204 = nb) (hran : S.1 203 = nI n) (hn : n + 0 ≤ 24) (hdep : dep + 0 ≤ 40) (x : Int32) : Sp 0 0 0 MX0_run [.ref 4, .int (nI 11), .int (x), .int (nI dep)] (hp S) (Rt (some (.int ((x ^^^ nb)))) (hp S)) := by
  refine Sp_of (by decide +kernel) (Nat.le_of_ble_eq_true rfl) ?_
  show AW none MX0_run 0 0 0 0 [.ref 4, .int (nI 11), .int (x), .int (nI dep)] [] (hp S) _
  refine k_iload_n eX0_run_0 rfl ?_
  refine k_look 149 eX0_run_1 (by decide) (off := 148) (by decide) (by decide) ?_
  refine k_iload_n eX0_run_149 rfl ?_
  refine k_aload_n eX0_run_150 rfl ?_
  refine GX0_45 eX0_run_151 rfl ?_
  refine k_topi (nb) hnb ?_
  refine k_ixor eX0_run_154 ?_
  refine k_ireturn eX0_run_155 rfl rfl ?_
  exact ⟨rfl, rfl⟩
set_option maxHeartbeats 400000 in
theorem pX0_ask_3_2_2 {S : k_S} {n dep : Nat} {nb : Int32} (hK : S.1 205 = nI 3) (hnb : S.1 204 = nb) (hran : S.1 203 = nI n) (hn : n + 1 ≤ 24) (hdep : dep + 1 ≤ 40) (x : Int32) : Sp 1 0 0 MX0_ask [.ref 4, .int (nI 2), .int (nI 2), .int (x), .int (nI dep)] (hp S) (Rt (some (.int ((x ^^^ nb)))) (hp (trc S n [11]))) := by
  refine Sp_of (by decide +kernel) (Nat.le_of_ble_eq_true rfl) ?_
  show AW none MX0_ask 1 0 0 0 [.ref 4, .int (nI 2), .int (nI 2), .int (x), .int (nI dep), .null, .null, .null] [] (hp S) _
  refine k_iload eX0_ask_0 rfl ?_
  refine k_bipush (v := nI 40) eX0_ask_2 (by decide) ?_
  refine k_icmp_leN 9 eX0_ask_4 (by decide) (by omega) (by omega) (fun c_4 => ?_) (fun c_4 => by exfalso; omega)
  refine k_iload_n eX0_ask_9 rfl ?_
  refine k_istore (L2 := [_, _, _, _, _, _, _, _]) eX0_ask_10 (Nat.le_of_ble_eq_true rfl) rfl ?_
  refine k_iconst (v := nI 0) eX0_ask_12 (by decide) ?_
  refine k_istore (L2 := [_, _, _, _, _, _, _, _]) eX0_ask_13 (Nat.le_of_ble_eq_true rfl) rfl ?_
  refine k_iload eX0_ask_15 rfl ?_
  refine k_bipush (v := nI 8) eX0_ask_17 (by decide) ?_
  refine k_icmp_gtN 88 eX0_ask_19 (by decide) (by omega) (by omega) (fun c_19 => by exfalso; omega) (fun c_19 => ?_)
  refine k_iload eX0_ask_22 rfl ?_
  refine k_if_ltN 88 eX0_ask_24 (by decide) (by omega) ?_
  refine k_iload eX0_ask_27 rfl ?_
  refine k_iload_n eX0_ask_29 rfl ?_
  refine cS1 (M' := MX0_bodyOf) eX0_ask_30 mX0_64 wX0_bodyOf sX0_bodyOf rfl (pX0_bodyOf (S := S) (k := 2) (s := 2) (by decide) (by decide)) (by decide) (Nat.le_of_ble_eq_true rfl) ?_
  refine k_topi (nI 0) (by decide) ?_
  refine k_istore (L2 := [_, _, _, _, _, _, _, _]) eX0_ask_33 (Nat.le_of_ble_eq_true rfl) rfl ?_
  refine k_iload eX0_ask_35 rfl ?_
  refine k_if_eqN 75 eX0_ask_37 (by decide) (by omega) (fun c_37 => ?_) (fun c_37 => by exfalso; omega)
  refine k_iload eX0_ask_75 rfl ?_
  refine cS1 (M' := MX0_above) eX0_ask_77 mX0_33 wX0_above sX0_above rfl (pX0_above (S := S) (k := 2) (by decide)) (by decide) (Nat.le_of_ble_eq_true rfl) ?_
  refine k_topi (nI 0) (by decide) ?_
  refine k_istore (L2 := [_, _, _, _, _, _, _, _]) eX0_ask_80 (Nat.le_of_ble_eq_true rfl) rfl ?_
  refine k_iincN (g := 1) (a := 0) (L2 := [_, _, _, _, _, _, _, _]) eX0_ask_82 (Nat.le_of_ble_eq_true rfl) rfl rfl ?_
  refine k_goto 15 eX0_ask_85 (by decide) ?_
  refine k_iload eX0_ask_15 rfl ?_
  refine k_bipush (v := nI 8) eX0_ask_17 (by decide) ?_
  refine k_icmp_gtN 88 eX0_ask_19 (by decide) (by omega) (by omega) (fun c_19 => by exfalso; omega) (fun c_19 => ?_)
  refine k_iload eX0_ask_22 rfl ?_
  refine k_if_ltN 88 eX0_ask_24 (by decide) (by omega) ?_
  refine k_iload eX0_ask_27 rfl ?_
  refine k_iload_n eX0_ask_29 rfl ?_
  refine cS1 (M' := MX0_bodyOf) eX0_ask_30 mX0_64 wX0_bodyOf sX0_bodyOf rfl (pX0_bodyOf (S := S) (k := 0) (s := 2) (by decide) (by decide)) (by decide) (Nat.le_of_ble_eq_true rfl) ?_
  refine k_topi (nI 11) (by decide) ?_
  refine k_istore (L2 := [_, _, _, _, _, _, _, _]) eX0_ask_33 (Nat.le_of_ble_eq_true rfl) rfl ?_
  refine k_iload eX0_ask_35 rfl ?_
  refine k_if_eqN 75 eX0_ask_37 (by decide) (by omega) (fun c_37 => by exfalso; omega) (fun c_37 => ?_)
  refine k_aload_n eX0_ask_40 rfl ?_
  refine GX0_19 eX0_ask_41 rfl ?_
  refine k_aload_n eX0_ask_44 rfl ?_
  refine GX0_22 eX0_ask_45 rfl ?_
  refine k_topi (nI n) hran ?_
  refine k_iload eX0_ask_48 rfl ?_
  refine cN0 (M' := MX11_write) eX0_ask_50 mX0_25 wX11_write sX11_write rfl (pX11_writeN (j := n) (v := nI 11) (ar6 _) (by omega) (by decide) (as6 _ _)) (by decide) (Nat.le_of_ble_eq_true rfl) ?_
  refine k_aload_n eX0_ask_53 rfl ?_
  refine k_dup eX0_ask_54 rfl ?_
  refine GX0_22 eX0_ask_55 rfl ?_
  refine k_topi (nI n) hran ?_
  refine k_iconst (v := nI 1) eX0_ask_58 (by decide) ?_
  refine k_iaddN eX0_ask_59 ?_
  refine PX0_22 eX0_ask_60 rfl ?_
  refine k_heap (h2 := hp (trc1 S n 11)) rfl ?_
  refine k_aload_n eX0_ask_63 rfl ?_
  refine k_iload eX0_ask_64 rfl ?_
  refine k_iload_n eX0_ask_66 rfl ?_
  refine k_iload eX0_ask_67 rfl ?_
  refine k_iconst (v := nI 1) eX0_ask_69 (by decide) ?_
  refine k_iaddN eX0_ask_70 ?_
  refine cV1 (M' := MX0_run) eX0_ask_71 mX0_68 wX0_run vX0_run ⟨_, _, _, rfl, rfl, rfl⟩ rfl (pX0_run_3_11 (S := (trc1 S n 11)) (n := n + 1) (dep := (dep + 1)) (nb := nb) (t1K hK) (t1N hnb) rfl (by omega) (by omega) (x)) (by decide) (Nat.le_of_ble_eq_true rfl) ?_
  refine k_ireturn eX0_ask_74 rfl rfl ?_
  exact ⟨rfl, rfl⟩
set_option maxHeartbeats 400000 in
theorem pX0_run_3_40 {S : k_S} {n dep : Nat} {nb : Int32} (hK : S.1 205 = nI 3) (hnb : S.1 204 = nb) (hran : S.1 203 = nI n) (hn : n + 1 ≤ 24) (hdep : dep + 1 ≤ 40) (x : Int32) : Sp 2 0 0 MX0_run [.ref 4, .int (nI 40), .int (x), .int (nI dep)] (hp S) (Rt (some (.int (((x ^^^ nb) * nI 3)))) (hp (trc S n [11]))) := by
  refine Sp_of (by decide +kernel) (Nat.le_of_ble_eq_true rfl) ?_
  show AW none MX0_run 2 0 0 0 [.ref 4, .int (nI 40), .int (x), .int (nI dep)] [] (hp S) _
  refine k_iload_n eX0_run_0 rfl ?_
  refine k_look 183 eX0_run_1 (by decide) (off := 182) (by decide) (by decide) ?_
  refine k_aload_n eX0_run_183 rfl ?_
  refine k_iconst (v := nI 3) eX0_run_184 (by decide) ?_
  refine cS1 (M' := MX0_above) eX0_run_185 mX0_33 wX0_above sX0_above rfl (pX0_above (S := S) (k := 3) (by decide)) (by decide) (Nat.le_of_ble_eq_true rfl) ?_
  refine k_topi (nI 2) (by decide) ?_
  refine k_iconst (v := nI 2) eX0_run_188 (by decide) ?_
  refine k_iload_n eX0_run_189 rfl ?_
  refine k_iload_n eX0_run_190 rfl ?_
  refine cV1 (M' := MX0_ask) eX0_run_191 mX0_54 wX0_ask vX0_ask ⟨_, _, _, rfl, rfl, rfl⟩ rfl (pX0_ask_3_2_2 (S := S) (n := n) (dep := dep) (nb := nb) hK hnb hran (by omega) (by omega) (x)) (by decide) (Nat.le_of_ble_eq_true rfl) ?_
  refine k_iconst (v := nI 3) eX0_run_194 (by decide) ?_
  refine k_imul eX0_run_195 ?_
  refine k_ireturn eX0_run_196 rfl rfl ?_
  exact ⟨rfl, rfl⟩
set_option maxHeartbeats 400000 in
theorem pX0_ask_3_3_2 {S : k_S} {n dep : Nat} {nb : Int32} (hK : S.1 205 = nI 3) (hnb : S.1 204 = nb) (hran : S.1 203 = nI n) (hn : n + 2 ≤ 24) (hdep : dep + 2 ≤ 40) (x : Int32) : Sp 3 0 0 MX0_ask [.ref 4, .int (nI 3), .int (nI 2), .int (x), .int (nI dep)] (hp S) (Rt (some (.int (((x ^^^ nb) * nI 3)))) (hp (trc S n [40, 11]))) := by
  refine Sp_of (by decide +kernel) (Nat.le_of_ble_eq_true rfl) ?_
  show AW none MX0_ask 3 0 0 0 [.ref 4, .int (nI 3), .int (nI 2), .int (x), .int (nI dep), .null, .null, .null] [] (hp S) _
  refine k_iload eX0_ask_0 rfl ?_
  refine k_bipush (v := nI 40) eX0_ask_2 (by decide) ?_
  refine k_icmp_leN 9 eX0_ask_4 (by decide) (by omega) (by omega) (fun c_4 => ?_) (fun c_4 => by exfalso; omega)
  refine k_iload_n eX0_ask_9 rfl ?_
  refine k_istore (L2 := [_, _, _, _, _, _, _, _]) eX0_ask_10 (Nat.le_of_ble_eq_true rfl) rfl ?_
  refine k_iconst (v := nI 0) eX0_ask_12 (by decide) ?_
  refine k_istore (L2 := [_, _, _, _, _, _, _, _]) eX0_ask_13 (Nat.le_of_ble_eq_true rfl) rfl ?_
  refine k_iload eX0_ask_15 rfl ?_
  refine k_bipush (v := nI 8) eX0_ask_17 (by decide) ?_
  refine k_icmp_gtN 88 eX0_ask_19 (by decide) (by omega) (by omega) (fun c_19 => by exfalso; omega) (fun c_19 => ?_)
  refine k_iload eX0_ask_22 rfl ?_
  refine k_if_ltN 88 eX0_ask_24 (by decide) (by omega) ?_
  refine k_iload eX0_ask_27 rfl ?_
  refine k_iload_n eX0_ask_29 rfl ?_
  refine cS1 (M' := MX0_bodyOf) eX0_ask_30 mX0_64 wX0_bodyOf sX0_bodyOf rfl (pX0_bodyOf (S := S) (k := 3) (s := 2) (by decide) (by decide)) (by decide) (Nat.le_of_ble_eq_true rfl) ?_
  refine k_topi (nI 40) (by decide) ?_
  refine k_istore (L2 := [_, _, _, _, _, _, _, _]) eX0_ask_33 (Nat.le_of_ble_eq_true rfl) rfl ?_
  refine k_iload eX0_ask_35 rfl ?_
  refine k_if_eqN 75 eX0_ask_37 (by decide) (by omega) (fun c_37 => by exfalso; omega) (fun c_37 => ?_)
  refine k_aload_n eX0_ask_40 rfl ?_
  refine GX0_19 eX0_ask_41 rfl ?_
  refine k_aload_n eX0_ask_44 rfl ?_
  refine GX0_22 eX0_ask_45 rfl ?_
  refine k_topi (nI n) hran ?_
  refine k_iload eX0_ask_48 rfl ?_
  refine cN0 (M' := MX11_write) eX0_ask_50 mX0_25 wX11_write sX11_write rfl (pX11_writeN (j := n) (v := nI 40) (ar6 _) (by omega) (by decide) (as6 _ _)) (by decide) (Nat.le_of_ble_eq_true rfl) ?_
  refine k_aload_n eX0_ask_53 rfl ?_
  refine k_dup eX0_ask_54 rfl ?_
  refine GX0_22 eX0_ask_55 rfl ?_
  refine k_topi (nI n) hran ?_
  refine k_iconst (v := nI 1) eX0_ask_58 (by decide) ?_
  refine k_iaddN eX0_ask_59 ?_
  refine PX0_22 eX0_ask_60 rfl ?_
  refine k_heap (h2 := hp (trc1 S n 40)) rfl ?_
  refine k_aload_n eX0_ask_63 rfl ?_
  refine k_iload eX0_ask_64 rfl ?_
  refine k_iload_n eX0_ask_66 rfl ?_
  refine k_iload eX0_ask_67 rfl ?_
  refine k_iconst (v := nI 1) eX0_ask_69 (by decide) ?_
  refine k_iaddN eX0_ask_70 ?_
  refine cV1 (M' := MX0_run) eX0_ask_71 mX0_68 wX0_run vX0_run ⟨_, _, _, rfl, rfl, rfl⟩ rfl (pX0_run_3_40 (S := (trc1 S n 40)) (n := n + 1) (dep := (dep + 1)) (nb := nb) (t1K hK) (t1N hnb) rfl (by omega) (by omega) (x)) (by decide) (Nat.le_of_ble_eq_true rfl) ?_
  refine k_ireturn eX0_ask_74 rfl rfl ?_
  exact ⟨rfl, congrArg hp (trc_cons S n 40 [11]).symm⟩
set_option maxHeartbeats 400000 in
theorem pX0_own_3_1 {S : k_S} {n dep : Nat} {nb : Int32} (hK : S.1 205 = nI 3) (hnb : S.1 204 = nb) (hran : S.1 203 = nI n) (hn : n + 4 ≤ 24) (hdep : dep + 4 ≤ 40) (x : Int32) : Sp 9 0 0 MX0_own [.ref 4, .int (nI 1), .int (x), .int (nI dep)] (hp S) (Rt (some (.int ((-((((x + nI 1) + nb) * nI 2)))))) (hp (trc S n [30, 10, 41, 1]))) := by
  refine Sp_of (by decide +kernel) (Nat.le_of_ble_eq_true rfl) ?_
  show AW none MX0_own 9 0 0 0 [.ref 4, .int (nI 1), .int (x), .int (nI dep)] [] (hp S) _
  refine k_aload_n eX0_own_0 rfl ?_
  refine k_aload_n eX0_own_1 rfl ?_
  refine GX0_51 eX0_own_2 rfl ?_
  refine k_topi (nI 3) hK ?_
  refine k_iload_n eX0_own_5 rfl ?_
  refine k_iload_n eX0_own_6 rfl ?_
  refine k_iload_n eX0_own_7 rfl ?_
  refine cV1 (M' := MX0_ask) eX0_own_8 mX0_54 wX0_ask vX0_ask ⟨_, _, _, rfl, rfl, rfl⟩ rfl (pX0_ask_3_3_1 (S := S) (n := n) (dep := dep) (nb := nb) hK hnb hran (by omega) (by omega) (x)) (by decide) (Nat.le_of_ble_eq_true rfl) ?_
  refine k_ireturn eX0_own_11 rfl rfl ?_
  exact ⟨rfl, rfl⟩
set_option maxHeartbeats 400000 in
theorem pX0_own_3_2 {S : k_S} {n dep : Nat} {nb : Int32} (hK : S.1 205 = nI 3) (hnb : S.1 204 = nb) (hran : S.1 203 = nI n) (hn : n + 2 ≤ 24) (hdep : dep + 2 ≤ 40) (x : Int32) : Sp 4 0 0 MX0_own [.ref 4, .int (nI 2), .int (x), .int (nI dep)] (hp S) (Rt (some (.int (((x ^^^ nb) * nI 3)))) (hp (trc S n [40, 11]))) := by
  refine Sp_of (by decide +kernel) (Nat.le_of_ble_eq_true rfl) ?_
  show AW none MX0_own 4 0 0 0 [.ref 4, .int (nI 2), .int (x), .int (nI dep)] [] (hp S) _
  refine k_aload_n eX0_own_0 rfl ?_
  refine k_aload_n eX0_own_1 rfl ?_
  refine GX0_51 eX0_own_2 rfl ?_
  refine k_topi (nI 3) hK ?_
  refine k_iload_n eX0_own_5 rfl ?_
  refine k_iload_n eX0_own_6 rfl ?_
  refine k_iload_n eX0_own_7 rfl ?_
  refine cV1 (M' := MX0_ask) eX0_own_8 mX0_54 wX0_ask vX0_ask ⟨_, _, _, rfl, rfl, rfl⟩ rfl (pX0_ask_3_3_2 (S := S) (n := n) (dep := dep) (nb := nb) hK hnb hran (by omega) (by omega) (x)) (by decide) (Nat.le_of_ble_eq_true rfl) ?_
  refine k_ireturn eX0_own_11 rfl rfl ?_
  exact ⟨rfl, rfl⟩
set_option maxHeartbeats 400000 in
theorem pX0_run_3_2 {S : k_S} {n dep : Nat} {nb : Int32} (hK : S.1 205 = nI 3) (hnb : S.1 204 = nb) (hran : S.1 203 = nI n) (hn : n + 6 ≤ 24) (hdep : dep + 4 ≤ 40) (x : Int32) : Sp 10 0 0 MX0_run [.ref 4, .int (nI 2), .int (x), .int (nI dep)] (hp S) (Rt (some (.int (((-((((x + nI 1) + nb) * nI 2))) - (((nI 1) ^^^ nb) * nI 3))))) (hp (trc S n [30, 10, 41, 1, 40, 11]))) := by
  refine Sp_of (by decide +kernel) (Nat.le_of_ble_eq_true rfl) ?_
  show AW none MX0_run 10 0 0 0 [.ref 4, .int (nI 2), .int (x), .int (nI dep)] [] (hp S) _
  refine k_iload_n eX0_run_0 rfl ?_
  refine k_look 123 eX0_run_1 (by decide) (off := 122) (by decide) (by decide) ?_
  refine k_aload_n eX0_run_123 rfl ?_
  refine k_iconst (v := nI 1) eX0_run_124 (by decide) ?_
  refine k_iload_n eX0_run_125 rfl ?_
  refine k_iload_n eX0_run_126 rfl ?_
  refine cV1 (M' := MX0_own) eX0_run_127 mX0_72 wX0_own vX0_own ⟨_, _, _, rfl, rfl, rfl⟩ rfl (pX0_own_3_1 (S := S) (n := n) (dep := dep) (nb := nb) hK hnb hran (by omega) (by omega) (x)) (by decide) (Nat.le_of_ble_eq_true rfl) ?_
  refine k_aload_n eX0_run_130 rfl ?_
  refine k_iconst (v := nI 2) eX0_run_131 (by decide) ?_
  refine k_iconst (v := nI 1) eX0_run_132 (by decide) ?_
  refine k_iload_n eX0_run_133 rfl ?_
  refine cV1 (M' := MX0_own) eX0_run_134 mX0_72 wX0_own vX0_own ⟨_, _, _, rfl, rfl, rfl⟩ rfl (pX0_own_3_2 (S := (trc S (n) [30, 10, 41, 1])) (n := n + 4) (dep := dep) (nb := nb) (tK hK) (tN hnb) (tR hran) (by omega) (by omega) (nI 1)) (by decide) (Nat.le_of_ble_eq_true rfl) ?_
  refine k_isub eX0_run_137 ?_
  refine k_ireturn eX0_run_138 rfl rfl ?_
  exact ⟨rfl, congrArg hp (trc_app [30, 10, 41, 1] S n [40, 11]).symm⟩
set_option maxHeartbeats 400000 in
theorem pX0_ask_3_3_3 {S : k_S} {n dep : Nat} {nb : Int32} (hK : S.1 205 = nI 3) (hnb : S.1 204 = nb) (hran : S.1 203 = nI n) (hn : n + 7 ≤ 24) (hdep : dep + 5 ≤ 40) (x : Int32) : Sp 11 0 0 MX0_ask [.ref 4, .int (nI 3), .int (nI 3), .int (x), .int (nI dep)] (hp S) (Rt (some (.int (((-((((x + nI 1) + nb) * nI 2))) - (((nI 1) ^^^ nb) * nI 3))))) (hp (trc S n [2, 30, 10, 41, 1, 40, 11]))) := by
  refine Sp_of (by decide +kernel) (Nat.le_of_ble_eq_true rfl) ?_
  show AW none MX0_ask 11 0 0 0 [.ref 4, .int (nI 3), .int (nI 3), .int (x), .int (nI dep), .null, .null, .null] [] (hp S) _
  refine k_iload eX0_ask_0 rfl ?_
  refine k_bipush (v := nI 40) eX0_ask_2 (by decide) ?_
  refine k_icmp_leN 9 eX0_ask_4 (by decide) (by omega) (by omega) (fun c_4 => ?_) (fun c_4 => by exfalso; omega)
  refine k_iload_n eX0_ask_9 rfl ?_
  refine k_istore (L2 := [_, _, _, _, _, _, _, _]) eX0_ask_10 (Nat.le_of_ble_eq_true rfl) rfl ?_
  refine k_iconst (v := nI 0) eX0_ask_12 (by decide) ?_
  refine k_istore (L2 := [_, _, _, _, _, _, _, _]) eX0_ask_13 (Nat.le_of_ble_eq_true rfl) rfl ?_
  refine k_iload eX0_ask_15 rfl ?_
  refine k_bipush (v := nI 8) eX0_ask_17 (by decide) ?_
  refine k_icmp_gtN 88 eX0_ask_19 (by decide) (by omega) (by omega) (fun c_19 => by exfalso; omega) (fun c_19 => ?_)
  refine k_iload eX0_ask_22 rfl ?_
  refine k_if_ltN 88 eX0_ask_24 (by decide) (by omega) ?_
  refine k_iload eX0_ask_27 rfl ?_
  refine k_iload_n eX0_ask_29 rfl ?_
  refine cS1 (M' := MX0_bodyOf) eX0_ask_30 mX0_64 wX0_bodyOf sX0_bodyOf rfl (pX0_bodyOf (S := S) (k := 3) (s := 3) (by decide) (by decide)) (by decide) (Nat.le_of_ble_eq_true rfl) ?_
  refine k_topi (nI 0) (by decide) ?_
  refine k_istore (L2 := [_, _, _, _, _, _, _, _]) eX0_ask_33 (Nat.le_of_ble_eq_true rfl) rfl ?_
  refine k_iload eX0_ask_35 rfl ?_
  refine k_if_eqN 75 eX0_ask_37 (by decide) (by omega) (fun c_37 => ?_) (fun c_37 => by exfalso; omega)
  refine k_iload eX0_ask_75 rfl ?_
  refine cS1 (M' := MX0_above) eX0_ask_77 mX0_33 wX0_above sX0_above rfl (pX0_above (S := S) (k := 3) (by decide)) (by decide) (Nat.le_of_ble_eq_true rfl) ?_
  refine k_topi (nI 2) (by decide) ?_
  refine k_istore (L2 := [_, _, _, _, _, _, _, _]) eX0_ask_80 (Nat.le_of_ble_eq_true rfl) rfl ?_
  refine k_iincN (g := 1) (a := 0) (L2 := [_, _, _, _, _, _, _, _]) eX0_ask_82 (Nat.le_of_ble_eq_true rfl) rfl rfl ?_
  refine k_goto 15 eX0_ask_85 (by decide) ?_
  refine k_iload eX0_ask_15 rfl ?_
  refine k_bipush (v := nI 8) eX0_ask_17 (by decide) ?_
  refine k_icmp_gtN 88 eX0_ask_19 (by decide) (by omega) (by omega) (fun c_19 => by exfalso; omega) (fun c_19 => ?_)
  refine k_iload eX0_ask_22 rfl ?_
  refine k_if_ltN 88 eX0_ask_24 (by decide) (by omega) ?_
  refine k_iload eX0_ask_27 rfl ?_
  refine k_iload_n eX0_ask_29 rfl ?_
  refine cS1 (M' := MX0_bodyOf) eX0_ask_30 mX0_64 wX0_bodyOf sX0_bodyOf rfl (pX0_bodyOf (S := S) (k := 2) (s := 3) (by decide) (by decide)) (by decide) (Nat.le_of_ble_eq_true rfl) ?_
  refine k_topi (nI 0) (by decide) ?_
  refine k_istore (L2 := [_, _, _, _, _, _, _, _]) eX0_ask_33 (Nat.le_of_ble_eq_true rfl) rfl ?_
  refine k_iload eX0_ask_35 rfl ?_
  refine k_if_eqN 75 eX0_ask_37 (by decide) (by omega) (fun c_37 => ?_) (fun c_37 => by exfalso; omega)
  refine k_iload eX0_ask_75 rfl ?_
  refine cS1 (M' := MX0_above) eX0_ask_77 mX0_33 wX0_above sX0_above rfl (pX0_above (S := S) (k := 2) (by decide)) (by decide) (Nat.le_of_ble_eq_true rfl) ?_
  refine k_topi (nI 0) (by decide) ?_
  refine k_istore (L2 := [_, _, _, _, _, _, _, _]) eX0_ask_80 (Nat.le_of_ble_eq_true rfl) rfl ?_
  refine k_iincN (g := 1) (a := 1) (L2 := [_, _, _, _, _, _, _, _]) eX0_ask_82 (Nat.le_of_ble_eq_true rfl) rfl rfl ?_
  refine k_goto 15 eX0_ask_85 (by decide) ?_
  refine k_iload eX0_ask_15 rfl ?_
  refine k_bipush (v := nI 8) eX0_ask_17 (by decide) ?_
  refine k_icmp_gtN 88 eX0_ask_19 (by decide) (by omega) (by omega) (fun c_19 => by exfalso; omega) (fun c_19 => ?_)
  refine k_iload eX0_ask_22 rfl ?_
  refine k_if_ltN 88 eX0_ask_24 (by decide) (by omega) ?_
  refine k_iload eX0_ask_27 rfl ?_
  refine k_iload_n eX0_ask_29 rfl ?_
  refine cS1 (M' := MX0_bodyOf) eX0_ask_30 mX0_64 wX0_bodyOf sX0_bodyOf rfl (pX0_bodyOf (S := S) (k := 0) (s := 3) (by decide) (by decide)) (by decide) (Nat.le_of_ble_eq_true rfl) ?_
  refine k_topi (nI 0) (by decide) ?_
  refine k_istore (L2 := [_, _, _, _, _, _, _, _]) eX0_ask_33 (Nat.le_of_ble_eq_true rfl) rfl ?_
  refine k_iload eX0_ask_35 rfl ?_
  refine k_if_eqN 75 eX0_ask_37 (by decide) (by omega) (fun c_37 => ?_) (fun c_37 => by exfalso; omega)
  refine k_iload eX0_ask_75 rfl ?_
  refine cS1 (M' := MX0_above) eX0_ask_77 mX0_33 wX0_above sX0_above rfl (pX0_above (S := S) (k := 0) (by decide)) (by decide) (Nat.le_of_ble_eq_true rfl) ?_
  refine k_topi (nI 8) (by decide) ?_
  refine k_istore (L2 := [_, _, _, _, _, _, _, _]) eX0_ask_80 (Nat.le_of_ble_eq_true rfl) rfl ?_
  refine k_iincN (g := 1) (a := 2) (L2 := [_, _, _, _, _, _, _, _]) eX0_ask_82 (Nat.le_of_ble_eq_true rfl) rfl rfl ?_
  refine k_goto 15 eX0_ask_85 (by decide) ?_
  refine k_iload eX0_ask_15 rfl ?_
  refine k_bipush (v := nI 8) eX0_ask_17 (by decide) ?_
  refine k_icmp_gtN 88 eX0_ask_19 (by decide) (by omega) (by omega) (fun c_19 => by exfalso; omega) (fun c_19 => ?_)
  refine k_iload eX0_ask_22 rfl ?_
  refine k_if_ltN 88 eX0_ask_24 (by decide) (by omega) ?_
  refine k_iload eX0_ask_27 rfl ?_
  refine k_iload_n eX0_ask_29 rfl ?_
  refine cS1 (M' := MX0_bodyOf) eX0_ask_30 mX0_64 wX0_bodyOf sX0_bodyOf rfl (pX0_bodyOf (S := S) (k := 8) (s := 3) (by decide) (by decide)) (by decide) (Nat.le_of_ble_eq_true rfl) ?_
  refine k_topi (nI 2) (by decide) ?_
  refine k_istore (L2 := [_, _, _, _, _, _, _, _]) eX0_ask_33 (Nat.le_of_ble_eq_true rfl) rfl ?_
  refine k_iload eX0_ask_35 rfl ?_
  refine k_if_eqN 75 eX0_ask_37 (by decide) (by omega) (fun c_37 => by exfalso; omega) (fun c_37 => ?_)
  refine k_aload_n eX0_ask_40 rfl ?_
  refine GX0_19 eX0_ask_41 rfl ?_
  refine k_aload_n eX0_ask_44 rfl ?_
  refine GX0_22 eX0_ask_45 rfl ?_
  refine k_topi (nI n) hran ?_
  refine k_iload eX0_ask_48 rfl ?_
  refine cN0 (M' := MX11_write) eX0_ask_50 mX0_25 wX11_write sX11_write rfl (pX11_writeN (j := n) (v := nI 2) (ar6 _) (by omega) (by decide) (as6 _ _)) (by decide) (Nat.le_of_ble_eq_true rfl) ?_
  refine k_aload_n eX0_ask_53 rfl ?_
  refine k_dup eX0_ask_54 rfl ?_
  refine GX0_22 eX0_ask_55 rfl ?_
  refine k_topi (nI n) hran ?_
  refine k_iconst (v := nI 1) eX0_ask_58 (by decide) ?_
  refine k_iaddN eX0_ask_59 ?_
  refine PX0_22 eX0_ask_60 rfl ?_
  refine k_heap (h2 := hp (trc1 S n 2)) rfl ?_
  refine k_aload_n eX0_ask_63 rfl ?_
  refine k_iload eX0_ask_64 rfl ?_
  refine k_iload_n eX0_ask_66 rfl ?_
  refine k_iload eX0_ask_67 rfl ?_
  refine k_iconst (v := nI 1) eX0_ask_69 (by decide) ?_
  refine k_iaddN eX0_ask_70 ?_
  refine cV1 (M' := MX0_run) eX0_ask_71 mX0_68 wX0_run vX0_run ⟨_, _, _, rfl, rfl, rfl⟩ rfl (pX0_run_3_2 (S := (trc1 S n 2)) (n := n + 1) (dep := (dep + 1)) (nb := nb) (t1K hK) (t1N hnb) rfl (by omega) (by omega) (x)) (by decide) (Nat.le_of_ble_eq_true rfl) ?_
  refine k_ireturn eX0_ask_74 rfl rfl ?_
  exact ⟨rfl, congrArg hp (trc_cons S n 2 [30, 10, 41, 1, 40, 11]).symm⟩
set_option maxHeartbeats 400000 in
theorem pX0_run_4_1 {S : k_S} {n dep : Nat} {nb : Int32} (hK : S.1 205 = nI 4) (hnb : S.1 204 = nb) (hran : S.1 203 = nI n) (hn : n + 0 ≤ 24) (hdep : dep + 0 ≤ 40) (x : Int32) : Sp 0 0 0 MX0_run [.ref 4, .int (nI 1), .int (x), .int (nI dep)] (hp S) (Rt (some (.int ((x + nb)))) (hp S)) := by
  refine Sp_of (by decide +kernel) (Nat.le_of_ble_eq_true rfl) ?_
  show AW none MX0_run 0 0 0 0 [.ref 4, .int (nI 1), .int (x), .int (nI dep)] [] (hp S) _
  refine k_iload_n eX0_run_0 rfl ?_
  refine k_look 116 eX0_run_1 (by decide) (off := 115) (by decide) (by decide) ?_
  refine k_iload_n eX0_run_116 rfl ?_
  refine k_aload_n eX0_run_117 rfl ?_
  refine GX0_45 eX0_run_118 rfl ?_
  refine k_topi (nb) hnb ?_
  refine k_iadd eX0_run_121 ?_
  refine k_ireturn eX0_run_122 rfl rfl ?_
  exact ⟨rfl, rfl⟩
set_option maxHeartbeats 400000 in
theorem pX0_ask_4_4_0 {S : k_S} {n dep : Nat} {nb : Int32} (hK : S.1 205 = nI 4) (hnb : S.1 204 = nb) (hran : S.1 203 = nI n) (hn : n + 1 ≤ 24) (hdep : dep + 1 ≤ 40) (x : Int32) : Sp 1 0 0 MX0_ask [.ref 4, .int (nI 4), .int (nI 0), .int (x), .int (nI dep)] (hp S) (Rt (some (.int ((x + nb)))) (hp (trc S n [1]))) := by
  refine Sp_of (by decide +kernel) (Nat.le_of_ble_eq_true rfl) ?_
  show AW none MX0_ask 1 0 0 0 [.ref 4, .int (nI 4), .int (nI 0), .int (x), .int (nI dep), .null, .null, .null] [] (hp S) _
  refine k_iload eX0_ask_0 rfl ?_
  refine k_bipush (v := nI 40) eX0_ask_2 (by decide) ?_
  refine k_icmp_leN 9 eX0_ask_4 (by decide) (by omega) (by omega) (fun c_4 => ?_) (fun c_4 => by exfalso; omega)
  refine k_iload_n eX0_ask_9 rfl ?_
  refine k_istore (L2 := [_, _, _, _, _, _, _, _]) eX0_ask_10 (Nat.le_of_ble_eq_true rfl) rfl ?_
  refine k_iconst (v := nI 0) eX0_ask_12 (by decide) ?_
  refine k_istore (L2 := [_, _, _, _, _, _, _, _]) eX0_ask_13 (Nat.le_of_ble_eq_true rfl) rfl ?_
  refine k_iload eX0_ask_15 rfl ?_
  refine k_bipush (v := nI 8) eX0_ask_17 (by decide) ?_
  refine k_icmp_gtN 88 eX0_ask_19 (by decide) (by omega) (by omega) (fun c_19 => by exfalso; omega) (fun c_19 => ?_)
  refine k_iload eX0_ask_22 rfl ?_
  refine k_if_ltN 88 eX0_ask_24 (by decide) (by omega) ?_
  refine k_iload eX0_ask_27 rfl ?_
  refine k_iload_n eX0_ask_29 rfl ?_
  refine cS1 (M' := MX0_bodyOf) eX0_ask_30 mX0_64 wX0_bodyOf sX0_bodyOf rfl (pX0_bodyOf (S := S) (k := 4) (s := 0) (by decide) (by decide)) (by decide) (Nat.le_of_ble_eq_true rfl) ?_
  refine k_topi (nI 0) (by decide) ?_
  refine k_istore (L2 := [_, _, _, _, _, _, _, _]) eX0_ask_33 (Nat.le_of_ble_eq_true rfl) rfl ?_
  refine k_iload eX0_ask_35 rfl ?_
  refine k_if_eqN 75 eX0_ask_37 (by decide) (by omega) (fun c_37 => ?_) (fun c_37 => by exfalso; omega)
  refine k_iload eX0_ask_75 rfl ?_
  refine cS1 (M' := MX0_above) eX0_ask_77 mX0_33 wX0_above sX0_above rfl (pX0_above (S := S) (k := 4) (by decide)) (by decide) (Nat.le_of_ble_eq_true rfl) ?_
  refine k_topi (nI 0) (by decide) ?_
  refine k_istore (L2 := [_, _, _, _, _, _, _, _]) eX0_ask_80 (Nat.le_of_ble_eq_true rfl) rfl ?_
  refine k_iincN (g := 1) (a := 0) (L2 := [_, _, _, _, _, _, _, _]) eX0_ask_82 (Nat.le_of_ble_eq_true rfl) rfl rfl ?_
  refine k_goto 15 eX0_ask_85 (by decide) ?_
  refine k_iload eX0_ask_15 rfl ?_
  refine k_bipush (v := nI 8) eX0_ask_17 (by decide) ?_
  refine k_icmp_gtN 88 eX0_ask_19 (by decide) (by omega) (by omega) (fun c_19 => by exfalso; omega) (fun c_19 => ?_)
  refine k_iload eX0_ask_22 rfl ?_
  refine k_if_ltN 88 eX0_ask_24 (by decide) (by omega) ?_
  refine k_iload eX0_ask_27 rfl ?_
  refine k_iload_n eX0_ask_29 rfl ?_
  refine cS1 (M' := MX0_bodyOf) eX0_ask_30 mX0_64 wX0_bodyOf sX0_bodyOf rfl (pX0_bodyOf (S := S) (k := 0) (s := 0) (by decide) (by decide)) (by decide) (Nat.le_of_ble_eq_true rfl) ?_
  refine k_topi (nI 0) (by decide) ?_
  refine k_istore (L2 := [_, _, _, _, _, _, _, _]) eX0_ask_33 (Nat.le_of_ble_eq_true rfl) rfl ?_
  refine k_iload eX0_ask_35 rfl ?_
  refine k_if_eqN 75 eX0_ask_37 (by decide) (by omega) (fun c_37 => ?_) (fun c_37 => by exfalso; omega)
  refine k_iload eX0_ask_75 rfl ?_
  refine cS1 (M' := MX0_above) eX0_ask_77 mX0_33 wX0_above sX0_above rfl (pX0_above (S := S) (k := 0) (by decide)) (by decide) (Nat.le_of_ble_eq_true rfl) ?_
  refine k_topi (nI 8) (by decide) ?_
  refine k_istore (L2 := [_, _, _, _, _, _, _, _]) eX0_ask_80 (Nat.le_of_ble_eq_true rfl) rfl ?_
  refine k_iincN (g := 1) (a := 1) (L2 := [_, _, _, _, _, _, _, _]) eX0_ask_82 (Nat.le_of_ble_eq_true rfl) rfl rfl ?_
  refine k_goto 15 eX0_ask_85 (by decide) ?_
  refine k_iload eX0_ask_15 rfl ?_
  refine k_bipush (v := nI 8) eX0_ask_17 (by decide) ?_
  refine k_icmp_gtN 88 eX0_ask_19 (by decide) (by omega) (by omega) (fun c_19 => by exfalso; omega) (fun c_19 => ?_)
  refine k_iload eX0_ask_22 rfl ?_
  refine k_if_ltN 88 eX0_ask_24 (by decide) (by omega) ?_
  refine k_iload eX0_ask_27 rfl ?_
  refine k_iload_n eX0_ask_29 rfl ?_
  refine cS1 (M' := MX0_bodyOf) eX0_ask_30 mX0_64 wX0_bodyOf sX0_bodyOf rfl (pX0_bodyOf (S := S) (k := 8) (s := 0) (by decide) (by decide)) (by decide) (Nat.le_of_ble_eq_true rfl) ?_
  refine k_topi (nI 1) (by decide) ?_
  refine k_istore (L2 := [_, _, _, _, _, _, _, _]) eX0_ask_33 (Nat.le_of_ble_eq_true rfl) rfl ?_
  refine k_iload eX0_ask_35 rfl ?_
  refine k_if_eqN 75 eX0_ask_37 (by decide) (by omega) (fun c_37 => by exfalso; omega) (fun c_37 => ?_)
  refine k_aload_n eX0_ask_40 rfl ?_
  refine GX0_19 eX0_ask_41 rfl ?_
  refine k_aload_n eX0_ask_44 rfl ?_
  refine GX0_22 eX0_ask_45 rfl ?_
  refine k_topi (nI n) hran ?_
  refine k_iload eX0_ask_48 rfl ?_
  refine cN0 (M' := MX11_write) eX0_ask_50 mX0_25 wX11_write sX11_write rfl (pX11_writeN (j := n) (v := nI 1) (ar6 _) (by omega) (by decide) (as6 _ _)) (by decide) (Nat.le_of_ble_eq_true rfl) ?_
  refine k_aload_n eX0_ask_53 rfl ?_
  refine k_dup eX0_ask_54 rfl ?_
  refine GX0_22 eX0_ask_55 rfl ?_
  refine k_topi (nI n) hran ?_
  refine k_iconst (v := nI 1) eX0_ask_58 (by decide) ?_
  refine k_iaddN eX0_ask_59 ?_
  refine PX0_22 eX0_ask_60 rfl ?_
  refine k_heap (h2 := hp (trc1 S n 1)) rfl ?_
  refine k_aload_n eX0_ask_63 rfl ?_
  refine k_iload eX0_ask_64 rfl ?_
  refine k_iload_n eX0_ask_66 rfl ?_
  refine k_iload eX0_ask_67 rfl ?_
  refine k_iconst (v := nI 1) eX0_ask_69 (by decide) ?_
  refine k_iaddN eX0_ask_70 ?_
  refine cV1 (M' := MX0_run) eX0_ask_71 mX0_68 wX0_run vX0_run ⟨_, _, _, rfl, rfl, rfl⟩ rfl (pX0_run_4_1 (S := (trc1 S n 1)) (n := n + 1) (dep := (dep + 1)) (nb := nb) (t1K hK) (t1N hnb) rfl (by omega) (by omega) (x)) (by decide) (Nat.le_of_ble_eq_true rfl) ?_
  refine k_ireturn eX0_ask_74 rfl rfl ?_
  exact ⟨rfl, rfl⟩
set_option maxHeartbeats 400000 in
theorem pX0_own_4_0 {S : k_S} {n dep : Nat} {nb : Int32} (hK : S.1 205 = nI 4) (hnb : S.1 204 = nb) (hran : S.1 203 = nI n) (hn : n + 1 ≤ 24) (hdep : dep + 1 ≤ 40) (x : Int32) : Sp 2 0 0 MX0_own [.ref 4, .int (nI 0), .int (x), .int (nI dep)] (hp S) (Rt (some (.int ((x + nb)))) (hp (trc S n [1]))) := by
  refine Sp_of (by decide +kernel) (Nat.le_of_ble_eq_true rfl) ?_
  show AW none MX0_own 2 0 0 0 [.ref 4, .int (nI 0), .int (x), .int (nI dep)] [] (hp S) _
  refine k_aload_n eX0_own_0 rfl ?_
  refine k_aload_n eX0_own_1 rfl ?_
  refine GX0_51 eX0_own_2 rfl ?_
  refine k_topi (nI 4) hK ?_
  refine k_iload_n eX0_own_5 rfl ?_
  refine k_iload_n eX0_own_6 rfl ?_
  refine k_iload_n eX0_own_7 rfl ?_
  refine cV1 (M' := MX0_ask) eX0_own_8 mX0_54 wX0_ask vX0_ask ⟨_, _, _, rfl, rfl, rfl⟩ rfl (pX0_ask_4_4_0 (S := S) (n := n) (dep := dep) (nb := nb) hK hnb hran (by omega) (by omega) (x)) (by decide) (Nat.le_of_ble_eq_true rfl) ?_
  refine k_ireturn eX0_own_11 rfl rfl ?_
  exact ⟨rfl, rfl⟩
set_option maxHeartbeats 400000 in
theorem pX0_run_4_10 {S : k_S} {n dep : Nat} {nb : Int32} (hK : S.1 205 = nI 4) (hnb : S.1 204 = nb) (hran : S.1 203 = nI n) (hn : n + 1 ≤ 24) (hdep : dep + 1 ≤ 40) (x : Int32) : Sp 3 0 0 MX0_run [.ref 4, .int (nI 10), .int (x), .int (nI dep)] (hp S) (Rt (some (.int (((x + nb) * nI 2)))) (hp (trc S n [1]))) := by
  refine Sp_of (by decide +kernel) (Nat.le_of_ble_eq_true rfl) ?_
  show AW none MX0_run 3 0 0 0 [.ref 4, .int (nI 10), .int (x), .int (nI dep)] [] (hp S) _
  refine k_iload_n eX0_run_0 rfl ?_
  refine k_look 139 eX0_run_1 (by decide) (off := 138) (by decide) (by decide) ?_
  refine k_aload_n eX0_run_139 rfl ?_
  refine k_iconst (v := nI 0) eX0_run_140 (by decide) ?_
  refine k_iload_n eX0_run_141 rfl ?_
  refine k_iload_n eX0_run_142 rfl ?_
  refine cV1 (M' := MX0_own) eX0_run_143 mX0_72 wX0_own vX0_own ⟨_, _, _, rfl, rfl, rfl⟩ rfl (pX0_own_4_0 (S := S) (n := n) (dep := dep) (nb := nb) hK hnb hran (by omega) (by omega) (x)) (by decide) (Nat.le_of_ble_eq_true rfl) ?_
  refine k_iconst (v := nI 2) eX0_run_146 (by decide) ?_
  refine k_imul eX0_run_147 ?_
  refine k_ireturn eX0_run_148 rfl rfl ?_
  exact ⟨rfl, rfl⟩
set_option maxHeartbeats 400000 in
theorem pX0_ask_4_4_1 {S : k_S} {n dep : Nat} {nb : Int32} (hK : S.1 205 = nI 4) (hnb : S.1 204 = nb) (hran : S.1 203 = nI n) (hn : n + 2 ≤ 24) (hdep : dep + 2 ≤ 40) (x : Int32) : Sp 4 0 0 MX0_ask [.ref 4, .int (nI 4), .int (nI 1), .int (x), .int (nI dep)] (hp S) (Rt (some (.int (((x + nb) * nI 2)))) (hp (trc S n [10, 1]))) := by
  refine Sp_of (by decide +kernel) (Nat.le_of_ble_eq_true rfl) ?_
  show AW none MX0_ask 4 0 0 0 [.ref 4, .int (nI 4), .int (nI 1), .int (x), .int (nI dep), .null, .null, .null] [] (hp S) _
  refine k_iload eX0_ask_0 rfl ?_
  refine k_bipush (v := nI 40) eX0_ask_2 (by decide) ?_
  refine k_icmp_leN 9 eX0_ask_4 (by decide) (by omega) (by omega) (fun c_4 => ?_) (fun c_4 => by exfalso; omega)
  refine k_iload_n eX0_ask_9 rfl ?_
  refine k_istore (L2 := [_, _, _, _, _, _, _, _]) eX0_ask_10 (Nat.le_of_ble_eq_true rfl) rfl ?_
  refine k_iconst (v := nI 0) eX0_ask_12 (by decide) ?_
  refine k_istore (L2 := [_, _, _, _, _, _, _, _]) eX0_ask_13 (Nat.le_of_ble_eq_true rfl) rfl ?_
  refine k_iload eX0_ask_15 rfl ?_
  refine k_bipush (v := nI 8) eX0_ask_17 (by decide) ?_
  refine k_icmp_gtN 88 eX0_ask_19 (by decide) (by omega) (by omega) (fun c_19 => by exfalso; omega) (fun c_19 => ?_)
  refine k_iload eX0_ask_22 rfl ?_
  refine k_if_ltN 88 eX0_ask_24 (by decide) (by omega) ?_
  refine k_iload eX0_ask_27 rfl ?_
  refine k_iload_n eX0_ask_29 rfl ?_
  refine cS1 (M' := MX0_bodyOf) eX0_ask_30 mX0_64 wX0_bodyOf sX0_bodyOf rfl (pX0_bodyOf (S := S) (k := 4) (s := 1) (by decide) (by decide)) (by decide) (Nat.le_of_ble_eq_true rfl) ?_
  refine k_topi (nI 0) (by decide) ?_
  refine k_istore (L2 := [_, _, _, _, _, _, _, _]) eX0_ask_33 (Nat.le_of_ble_eq_true rfl) rfl ?_
  refine k_iload eX0_ask_35 rfl ?_
  refine k_if_eqN 75 eX0_ask_37 (by decide) (by omega) (fun c_37 => ?_) (fun c_37 => by exfalso; omega)
  refine k_iload eX0_ask_75 rfl ?_
  refine cS1 (M' := MX0_above) eX0_ask_77 mX0_33 wX0_above sX0_above rfl (pX0_above (S := S) (k := 4) (by decide)) (by decide) (Nat.le_of_ble_eq_true rfl) ?_
  refine k_topi (nI 0) (by decide) ?_
  refine k_istore (L2 := [_, _, _, _, _, _, _, _]) eX0_ask_80 (Nat.le_of_ble_eq_true rfl) rfl ?_
  refine k_iincN (g := 1) (a := 0) (L2 := [_, _, _, _, _, _, _, _]) eX0_ask_82 (Nat.le_of_ble_eq_true rfl) rfl rfl ?_
  refine k_goto 15 eX0_ask_85 (by decide) ?_
  refine k_iload eX0_ask_15 rfl ?_
  refine k_bipush (v := nI 8) eX0_ask_17 (by decide) ?_
  refine k_icmp_gtN 88 eX0_ask_19 (by decide) (by omega) (by omega) (fun c_19 => by exfalso; omega) (fun c_19 => ?_)
  refine k_iload eX0_ask_22 rfl ?_
  refine k_if_ltN 88 eX0_ask_24 (by decide) (by omega) ?_
  refine k_iload eX0_ask_27 rfl ?_
  refine k_iload_n eX0_ask_29 rfl ?_
  refine cS1 (M' := MX0_bodyOf) eX0_ask_30 mX0_64 wX0_bodyOf sX0_bodyOf rfl (pX0_bodyOf (S := S) (k := 0) (s := 1) (by decide) (by decide)) (by decide) (Nat.le_of_ble_eq_true rfl) ?_
  refine k_topi (nI 10) (by decide) ?_
  refine k_istore (L2 := [_, _, _, _, _, _, _, _]) eX0_ask_33 (Nat.le_of_ble_eq_true rfl) rfl ?_
  refine k_iload eX0_ask_35 rfl ?_
  refine k_if_eqN 75 eX0_ask_37 (by decide) (by omega) (fun c_37 => by exfalso; omega) (fun c_37 => ?_)
  refine k_aload_n eX0_ask_40 rfl ?_
  refine GX0_19 eX0_ask_41 rfl ?_
  refine k_aload_n eX0_ask_44 rfl ?_
  refine GX0_22 eX0_ask_45 rfl ?_
  refine k_topi (nI n) hran ?_
  refine k_iload eX0_ask_48 rfl ?_
  refine cN0 (M' := MX11_write) eX0_ask_50 mX0_25 wX11_write sX11_write rfl (pX11_writeN (j := n) (v := nI 10) (ar6 _) (by omega) (by decide) (as6 _ _)) (by decide) (Nat.le_of_ble_eq_true rfl) ?_
  refine k_aload_n eX0_ask_53 rfl ?_
  refine k_dup eX0_ask_54 rfl ?_
  refine GX0_22 eX0_ask_55 rfl ?_
  refine k_topi (nI n) hran ?_
  refine k_iconst (v := nI 1) eX0_ask_58 (by decide) ?_
  refine k_iaddN eX0_ask_59 ?_
  refine PX0_22 eX0_ask_60 rfl ?_
  refine k_heap (h2 := hp (trc1 S n 10)) rfl ?_
  refine k_aload_n eX0_ask_63 rfl ?_
  refine k_iload eX0_ask_64 rfl ?_
  refine k_iload_n eX0_ask_66 rfl ?_
  refine k_iload eX0_ask_67 rfl ?_
  refine k_iconst (v := nI 1) eX0_ask_69 (by decide) ?_
  refine k_iaddN eX0_ask_70 ?_
  refine cV1 (M' := MX0_run) eX0_ask_71 mX0_68 wX0_run vX0_run ⟨_, _, _, rfl, rfl, rfl⟩ rfl (pX0_run_4_10 (S := (trc1 S n 10)) (n := n + 1) (dep := (dep + 1)) (nb := nb) (t1K hK) (t1N hnb) rfl (by omega) (by omega) (x)) (by decide) (Nat.le_of_ble_eq_true rfl) ?_
  refine k_ireturn eX0_ask_74 rfl rfl ?_
  exact ⟨rfl, congrArg hp (trc_cons S n 10 [1]).symm⟩
set_option maxHeartbeats 400000 in
theorem pX0_run_4_11 {S : k_S} {n dep : Nat} {nb : Int32} (hK : S.1 205 = nI 4) (hnb : S.1 204 = nb) (hran : S.1 203 = nI n) (hn : n + 0 ≤ 24) (hdep : dep + 0 ≤ 40) (x : Int32) : Sp 0 0 0 MX0_run [.ref 4, .int (nI 11), .int (x), .int (nI dep)] (hp S) (Rt (some (.int ((x ^^^ nb)))) (hp S)) := by
  refine Sp_of (by decide +kernel) (Nat.le_of_ble_eq_true rfl) ?_
  show AW none MX0_run 0 0 0 0 [.ref 4, .int (nI 11), .int (x), .int (nI dep)] [] (hp S) _
  refine k_iload_n eX0_run_0 rfl ?_
  refine k_look 149 eX0_run_1 (by decide) (off := 148) (by decide) (by decide) ?_
  refine k_iload_n eX0_run_149 rfl ?_
  refine k_aload_n eX0_run_150 rfl ?_
  refine GX0_45 eX0_run_151 rfl ?_
  refine k_topi (nb) hnb ?_
  refine k_ixor eX0_run_154 ?_
  refine k_ireturn eX0_run_155 rfl rfl ?_
  exact ⟨rfl, rfl⟩
set_option maxHeartbeats 400000 in
theorem pX0_ask_4_0_2 {S : k_S} {n dep : Nat} {nb : Int32} (hK : S.1 205 = nI 4) (hnb : S.1 204 = nb) (hran : S.1 203 = nI n) (hn : n + 1 ≤ 24) (hdep : dep + 1 ≤ 40) (x : Int32) : Sp 1 0 0 MX0_ask [.ref 4, .int (nI 0), .int (nI 2), .int (x), .int (nI dep)] (hp S) (Rt (some (.int ((x ^^^ nb)))) (hp (trc S n [11]))) := by
  refine Sp_of (by decide +kernel) (Nat.le_of_ble_eq_true rfl) ?_
  show AW none MX0_ask 1 0 0 0 [.ref 4, .int (nI 0), .int (nI 2), .int (x), .int (nI dep), .null, .null, .null] [] (hp S) _
  refine k_iload eX0_ask_0 rfl ?_
  refine k_bipush (v := nI 40) eX0_ask_2 (by decide) ?_
  refine k_icmp_leN 9 eX0_ask_4 (by decide) (by omega) (by omega) (fun c_4 => ?_) (fun c_4 => by exfalso; omega)
  refine k_iload_n eX0_ask_9 rfl ?_
  refine k_istore (L2 := [_, _, _, _, _, _, _, _]) eX0_ask_10 (Nat.le_of_ble_eq_true rfl) rfl ?_
  refine k_iconst (v := nI 0) eX0_ask_12 (by decide) ?_
  refine k_istore (L2 := [_, _, _, _, _, _, _, _]) eX0_ask_13 (Nat.le_of_ble_eq_true rfl) rfl ?_
  refine k_iload eX0_ask_15 rfl ?_
  refine k_bipush (v := nI 8) eX0_ask_17 (by decide) ?_
  refine k_icmp_gtN 88 eX0_ask_19 (by decide) (by omega) (by omega) (fun c_19 => by exfalso; omega) (fun c_19 => ?_)
  refine k_iload eX0_ask_22 rfl ?_
  refine k_if_ltN 88 eX0_ask_24 (by decide) (by omega) ?_
  refine k_iload eX0_ask_27 rfl ?_
  refine k_iload_n eX0_ask_29 rfl ?_
  refine cS1 (M' := MX0_bodyOf) eX0_ask_30 mX0_64 wX0_bodyOf sX0_bodyOf rfl (pX0_bodyOf (S := S) (k := 0) (s := 2) (by decide) (by decide)) (by decide) (Nat.le_of_ble_eq_true rfl) ?_
  refine k_topi (nI 11) (by decide) ?_
  refine k_istore (L2 := [_, _, _, _, _, _, _, _]) eX0_ask_33 (Nat.le_of_ble_eq_true rfl) rfl ?_
  refine k_iload eX0_ask_35 rfl ?_
  refine k_if_eqN 75 eX0_ask_37 (by decide) (by omega) (fun c_37 => by exfalso; omega) (fun c_37 => ?_)
  refine k_aload_n eX0_ask_40 rfl ?_
  refine GX0_19 eX0_ask_41 rfl ?_
  refine k_aload_n eX0_ask_44 rfl ?_
  refine GX0_22 eX0_ask_45 rfl ?_
  refine k_topi (nI n) hran ?_
  refine k_iload eX0_ask_48 rfl ?_
  refine cN0 (M' := MX11_write) eX0_ask_50 mX0_25 wX11_write sX11_write rfl (pX11_writeN (j := n) (v := nI 11) (ar6 _) (by omega) (by decide) (as6 _ _)) (by decide) (Nat.le_of_ble_eq_true rfl) ?_
  refine k_aload_n eX0_ask_53 rfl ?_
  refine k_dup eX0_ask_54 rfl ?_
  refine GX0_22 eX0_ask_55 rfl ?_
  refine k_topi (nI n) hran ?_
  refine k_iconst (v := nI 1) eX0_ask_58 (by decide) ?_
  refine k_iaddN eX0_ask_59 ?_
  refine PX0_22 eX0_ask_60 rfl ?_
  refine k_heap (h2 := hp (trc1 S n 11)) rfl ?_
  refine k_aload_n eX0_ask_63 rfl ?_
  refine k_iload eX0_ask_64 rfl ?_
  refine k_iload_n eX0_ask_66 rfl ?_
  refine k_iload eX0_ask_67 rfl ?_
  refine k_iconst (v := nI 1) eX0_ask_69 (by decide) ?_
  refine k_iaddN eX0_ask_70 ?_
  refine cV1 (M' := MX0_run) eX0_ask_71 mX0_68 wX0_run vX0_run ⟨_, _, _, rfl, rfl, rfl⟩ rfl (pX0_run_4_11 (S := (trc1 S n 11)) (n := n + 1) (dep := (dep + 1)) (nb := nb) (t1K hK) (t1N hnb) rfl (by omega) (by omega) (x)) (by decide) (Nat.le_of_ble_eq_true rfl) ?_
  refine k_ireturn eX0_ask_74 rfl rfl ?_
  exact ⟨rfl, rfl⟩
set_option maxHeartbeats 400000 in
theorem pX0_run_4_50 {S : k_S} {n dep : Nat} {nb : Int32} (hK : S.1 205 = nI 4) (hnb : S.1 204 = nb) (hran : S.1 203 = nI n) (hn : n + 2 ≤ 24) (hdep : dep + 1 ≤ 40) (x : Int32) : Sp 3 0 0 MX0_run [.ref 4, .int (nI 50), .int (x), .int (nI dep)] (hp S) (Rt (some (.int (((x ^^^ nb) - ((nI 2) + nb))))) (hp (trc S n [11, 1]))) := by
  refine Sp_of (by decide +kernel) (Nat.le_of_ble_eq_true rfl) ?_
  show AW none MX0_run 3 0 0 0 [.ref 4, .int (nI 50), .int (x), .int (nI dep)] [] (hp S) _
  refine k_iload_n eX0_run_0 rfl ?_
  refine k_look 211 eX0_run_1 (by decide) (off := 210) (by decide) (by decide) ?_
  refine k_aload_n eX0_run_211 rfl ?_
  refine k_iconst (v := nI 4) eX0_run_212 (by decide) ?_
  refine cS1 (M' := MX0_above) eX0_run_213 mX0_33 wX0_above sX0_above rfl (pX0_above (S := S) (k := 4) (by decide)) (by decide) (Nat.le_of_ble_eq_true rfl) ?_
  refine k_topi (nI 0) (by decide) ?_
  refine k_iconst (v := nI 2) eX0_run_216 (by decide) ?_
  refine k_iload_n eX0_run_217 rfl ?_
  refine k_iload_n eX0_run_218 rfl ?_
  refine cV1 (M' := MX0_ask) eX0_run_219 mX0_54 wX0_ask vX0_ask ⟨_, _, _, rfl, rfl, rfl⟩ rfl (pX0_ask_4_0_2 (S := S) (n := n) (dep := dep) (nb := nb) hK hnb hran (by omega) (by omega) (x)) (by decide) (Nat.le_of_ble_eq_true rfl) ?_
  refine k_aload_n eX0_run_222 rfl ?_
  refine k_iconst (v := nI 0) eX0_run_223 (by decide) ?_
  refine k_iconst (v := nI 2) eX0_run_224 (by decide) ?_
  refine k_iload_n eX0_run_225 rfl ?_
  refine cV1 (M' := MX0_own) eX0_run_226 mX0_72 wX0_own vX0_own ⟨_, _, _, rfl, rfl, rfl⟩ rfl (pX0_own_4_0 (S := (trc S (n) [11])) (n := n + 1) (dep := dep) (nb := nb) (tK hK) (tN hnb) (tR hran) (by omega) (by omega) (nI 2)) (by decide) (Nat.le_of_ble_eq_true rfl) ?_
  refine k_isub eX0_run_229 ?_
  refine k_ireturn eX0_run_230 rfl rfl ?_
  exact ⟨rfl, congrArg hp (trc_app [11] S n [1]).symm⟩
set_option maxHeartbeats 400000 in
theorem pX0_ask_4_4_2 {S : k_S} {n dep : Nat} {nb : Int32} (hK : S.1 205 = nI 4) (hnb : S.1 204 = nb) (hran : S.1 203 = nI n) (hn : n + 3 ≤ 24) (hdep : dep + 2 ≤ 40) (x : Int32) : Sp 4 0 0 MX0_ask [.ref 4, .int (nI 4), .int (nI 2), .int (x), .int (nI dep)] (hp S) (Rt (some (.int (((x ^^^ nb) - ((nI 2) + nb))))) (hp (trc S n [50, 11, 1]))) := by
  refine Sp_of (by decide +kernel) (Nat.le_of_ble_eq_true rfl) ?_
  show AW none MX0_ask 4 0 0 0 [.ref 4, .int (nI 4), .int (nI 2), .int (x), .int (nI dep), .null, .null, .null] [] (hp S) _
  refine k_iload eX0_ask_0 rfl ?_
  refine k_bipush (v := nI 40) eX0_ask_2 (by decide) ?_
  refine k_icmp_leN 9 eX0_ask_4 (by decide) (by omega) (by omega) (fun c_4 => ?_) (fun c_4 => by exfalso; omega)
  refine k_iload_n eX0_ask_9 rfl ?_
  refine k_istore (L2 := [_, _, _, _, _, _, _, _]) eX0_ask_10 (Nat.le_of_ble_eq_true rfl) rfl ?_
  refine k_iconst (v := nI 0) eX0_ask_12 (by decide) ?_
  refine k_istore (L2 := [_, _, _, _, _, _, _, _]) eX0_ask_13 (Nat.le_of_ble_eq_true rfl) rfl ?_
  refine k_iload eX0_ask_15 rfl ?_
  refine k_bipush (v := nI 8) eX0_ask_17 (by decide) ?_
  refine k_icmp_gtN 88 eX0_ask_19 (by decide) (by omega) (by omega) (fun c_19 => by exfalso; omega) (fun c_19 => ?_)
  refine k_iload eX0_ask_22 rfl ?_
  refine k_if_ltN 88 eX0_ask_24 (by decide) (by omega) ?_
  refine k_iload eX0_ask_27 rfl ?_
  refine k_iload_n eX0_ask_29 rfl ?_
  refine cS1 (M' := MX0_bodyOf) eX0_ask_30 mX0_64 wX0_bodyOf sX0_bodyOf rfl (pX0_bodyOf (S := S) (k := 4) (s := 2) (by decide) (by decide)) (by decide) (Nat.le_of_ble_eq_true rfl) ?_
  refine k_topi (nI 50) (by decide) ?_
  refine k_istore (L2 := [_, _, _, _, _, _, _, _]) eX0_ask_33 (Nat.le_of_ble_eq_true rfl) rfl ?_
  refine k_iload eX0_ask_35 rfl ?_
  refine k_if_eqN 75 eX0_ask_37 (by decide) (by omega) (fun c_37 => by exfalso; omega) (fun c_37 => ?_)
  refine k_aload_n eX0_ask_40 rfl ?_
  refine GX0_19 eX0_ask_41 rfl ?_
  refine k_aload_n eX0_ask_44 rfl ?_
  refine GX0_22 eX0_ask_45 rfl ?_
  refine k_topi (nI n) hran ?_
  refine k_iload eX0_ask_48 rfl ?_
  refine cN0 (M' := MX11_write) eX0_ask_50 mX0_25 wX11_write sX11_write rfl (pX11_writeN (j := n) (v := nI 50) (ar6 _) (by omega) (by decide) (as6 _ _)) (by decide) (Nat.le_of_ble_eq_true rfl) ?_
  refine k_aload_n eX0_ask_53 rfl ?_
  refine k_dup eX0_ask_54 rfl ?_
  refine GX0_22 eX0_ask_55 rfl ?_
  refine k_topi (nI n) hran ?_
  refine k_iconst (v := nI 1) eX0_ask_58 (by decide) ?_
  refine k_iaddN eX0_ask_59 ?_
  refine PX0_22 eX0_ask_60 rfl ?_
  refine k_heap (h2 := hp (trc1 S n 50)) rfl ?_
  refine k_aload_n eX0_ask_63 rfl ?_
  refine k_iload eX0_ask_64 rfl ?_
  refine k_iload_n eX0_ask_66 rfl ?_
  refine k_iload eX0_ask_67 rfl ?_
  refine k_iconst (v := nI 1) eX0_ask_69 (by decide) ?_
  refine k_iaddN eX0_ask_70 ?_
  refine cV1 (M' := MX0_run) eX0_ask_71 mX0_68 wX0_run vX0_run ⟨_, _, _, rfl, rfl, rfl⟩ rfl (pX0_run_4_50 (S := (trc1 S n 50)) (n := n + 1) (dep := (dep + 1)) (nb := nb) (t1K hK) (t1N hnb) rfl (by omega) (by omega) (x)) (by decide) (Nat.le_of_ble_eq_true rfl) ?_
  refine k_ireturn eX0_ask_74 rfl rfl ?_
  exact ⟨rfl, congrArg hp (trc_cons S n 50 [11, 1]).symm⟩
set_option maxHeartbeats 400000 in
theorem pX0_own_4_1 {S : k_S} {n dep : Nat} {nb : Int32} (hK : S.1 205 = nI 4) (hnb : S.1 204 = nb) (hran : S.1 203 = nI n) (hn : n + 2 ≤ 24) (hdep : dep + 2 ≤ 40) (x : Int32) : Sp 5 0 0 MX0_own [.ref 4, .int (nI 1), .int (x), .int (nI dep)] (hp S) (Rt (some (.int (((x + nb) * nI 2)))) (hp (trc S n [10, 1]))) := by
  refine Sp_of (by decide +kernel) (Nat.le_of_ble_eq_true rfl) ?_
  show AW none MX0_own 5 0 0 0 [.ref 4, .int (nI 1), .int (x), .int (nI dep)] [] (hp S) _
  refine k_aload_n eX0_own_0 rfl ?_
  refine k_aload_n eX0_own_1 rfl ?_
  refine GX0_51 eX0_own_2 rfl ?_
  refine k_topi (nI 4) hK ?_
  refine k_iload_n eX0_own_5 rfl ?_
  refine k_iload_n eX0_own_6 rfl ?_
  refine k_iload_n eX0_own_7 rfl ?_
  refine cV1 (M' := MX0_ask) eX0_own_8 mX0_54 wX0_ask vX0_ask ⟨_, _, _, rfl, rfl, rfl⟩ rfl (pX0_ask_4_4_1 (S := S) (n := n) (dep := dep) (nb := nb) hK hnb hran (by omega) (by omega) (x)) (by decide) (Nat.le_of_ble_eq_true rfl) ?_
  refine k_ireturn eX0_own_11 rfl rfl ?_
  exact ⟨rfl, rfl⟩
set_option maxHeartbeats 400000 in
theorem pX0_own_4_2 {S : k_S} {n dep : Nat} {nb : Int32} (hK : S.1 205 = nI 4) (hnb : S.1 204 = nb) (hran : S.1 203 = nI n) (hn : n + 3 ≤ 24) (hdep : dep + 2 ≤ 40) (x : Int32) : Sp 5 0 0 MX0_own [.ref 4, .int (nI 2), .int (x), .int (nI dep)] (hp S) (Rt (some (.int (((x ^^^ nb) - ((nI 2) + nb))))) (hp (trc S n [50, 11, 1]))) := by
  refine Sp_of (by decide +kernel) (Nat.le_of_ble_eq_true rfl) ?_
  show AW none MX0_own 5 0 0 0 [.ref 4, .int (nI 2), .int (x), .int (nI dep)] [] (hp S) _
  refine k_aload_n eX0_own_0 rfl ?_
  refine k_aload_n eX0_own_1 rfl ?_
  refine GX0_51 eX0_own_2 rfl ?_
  refine k_topi (nI 4) hK ?_
  refine k_iload_n eX0_own_5 rfl ?_
  refine k_iload_n eX0_own_6 rfl ?_
  refine k_iload_n eX0_own_7 rfl ?_
  refine cV1 (M' := MX0_ask) eX0_own_8 mX0_54 wX0_ask vX0_ask ⟨_, _, _, rfl, rfl, rfl⟩ rfl (pX0_ask_4_4_2 (S := S) (n := n) (dep := dep) (nb := nb) hK hnb hran (by omega) (by omega) (x)) (by decide) (Nat.le_of_ble_eq_true rfl) ?_
  refine k_ireturn eX0_own_11 rfl rfl ?_
  exact ⟨rfl, rfl⟩
set_option maxHeartbeats 400000 in
theorem pX0_run_4_2 {S : k_S} {n dep : Nat} {nb : Int32} (hK : S.1 205 = nI 4) (hnb : S.1 204 = nb) (hran : S.1 203 = nI n) (hn : n + 5 ≤ 24) (hdep : dep + 2 ≤ 40) (x : Int32) : Sp 6 0 0 MX0_run [.ref 4, .int (nI 2), .int (x), .int (nI dep)] (hp S) (Rt (some (.int ((((x + nb) * nI 2) - (((nI 1) ^^^ nb) - ((nI 2) + nb)))))) (hp (trc S n [10, 1, 50, 11, 1]))) := by
  refine Sp_of (by decide +kernel) (Nat.le_of_ble_eq_true rfl) ?_
  show AW none MX0_run 6 0 0 0 [.ref 4, .int (nI 2), .int (x), .int (nI dep)] [] (hp S) _
  refine k_iload_n eX0_run_0 rfl ?_
  refine k_look 123 eX0_run_1 (by decide) (off := 122) (by decide) (by decide) ?_
  refine k_aload_n eX0_run_123 rfl ?_
  refine k_iconst (v := nI 1) eX0_run_124 (by decide) ?_
  refine k_iload_n eX0_run_125 rfl ?_
  refine k_iload_n eX0_run_126 rfl ?_
  refine cV1 (M' := MX0_own) eX0_run_127 mX0_72 wX0_own vX0_own ⟨_, _, _, rfl, rfl, rfl⟩ rfl (pX0_own_4_1 (S := S) (n := n) (dep := dep) (nb := nb) hK hnb hran (by omega) (by omega) (x)) (by decide) (Nat.le_of_ble_eq_true rfl) ?_
  refine k_aload_n eX0_run_130 rfl ?_
  refine k_iconst (v := nI 2) eX0_run_131 (by decide) ?_
  refine k_iconst (v := nI 1) eX0_run_132 (by decide) ?_
  refine k_iload_n eX0_run_133 rfl ?_
  refine cV1 (M' := MX0_own) eX0_run_134 mX0_72 wX0_own vX0_own ⟨_, _, _, rfl, rfl, rfl⟩ rfl (pX0_own_4_2 (S := (trc S (n) [10, 1])) (n := n + 2) (dep := dep) (nb := nb) (tK hK) (tN hnb) (tR hran) (by omega) (by omega) (nI 1)) (by decide) (Nat.le_of_ble_eq_true rfl) ?_
  refine k_isub eX0_run_137 ?_
  refine k_ireturn eX0_run_138 rfl rfl ?_
  exact ⟨rfl, congrArg hp (trc_app [10, 1] S n [50, 11, 1]).symm⟩
set_option maxHeartbeats 400000 in
theorem pX0_ask_4_4_3 {S : k_S} {n dep : Nat} {nb : Int32} (hK : S.1 205 = nI 4) (hnb : S.1 204 = nb) (hran : S.1 203 = nI n) (hn : n + 6 ≤ 24) (hdep : dep + 3 ≤ 40) (x : Int32) : Sp 7 0 0 MX0_ask [.ref 4, .int (nI 4), .int (nI 3), .int (x), .int (nI dep)] (hp S) (Rt (some (.int ((((x + nb) * nI 2) - (((nI 1) ^^^ nb) - ((nI 2) + nb)))))) (hp (trc S n [2, 10, 1, 50, 11, 1]))) := by
  refine Sp_of (by decide +kernel) (Nat.le_of_ble_eq_true rfl) ?_
  show AW none MX0_ask 7 0 0 0 [.ref 4, .int (nI 4), .int (nI 3), .int (x), .int (nI dep), .null, .null, .null] [] (hp S) _
  refine k_iload eX0_ask_0 rfl ?_
  refine k_bipush (v := nI 40) eX0_ask_2 (by decide) ?_
  refine k_icmp_leN 9 eX0_ask_4 (by decide) (by omega) (by omega) (fun c_4 => ?_) (fun c_4 => by exfalso; omega)
  refine k_iload_n eX0_ask_9 rfl ?_
  refine k_istore (L2 := [_, _, _, _, _, _, _, _]) eX0_ask_10 (Nat.le_of_ble_eq_true rfl) rfl ?_
  refine k_iconst (v := nI 0) eX0_ask_12 (by decide) ?_
  refine k_istore (L2 := [_, _, _, _, _, _, _, _]) eX0_ask_13 (Nat.le_of_ble_eq_true rfl) rfl ?_
  refine k_iload eX0_ask_15 rfl ?_
  refine k_bipush (v := nI 8) eX0_ask_17 (by decide) ?_
  refine k_icmp_gtN 88 eX0_ask_19 (by decide) (by omega) (by omega) (fun c_19 => by exfalso; omega) (fun c_19 => ?_)
  refine k_iload eX0_ask_22 rfl ?_
  refine k_if_ltN 88 eX0_ask_24 (by decide) (by omega) ?_
  refine k_iload eX0_ask_27 rfl ?_
  refine k_iload_n eX0_ask_29 rfl ?_
  refine cS1 (M' := MX0_bodyOf) eX0_ask_30 mX0_64 wX0_bodyOf sX0_bodyOf rfl (pX0_bodyOf (S := S) (k := 4) (s := 3) (by decide) (by decide)) (by decide) (Nat.le_of_ble_eq_true rfl) ?_
  refine k_topi (nI 0) (by decide) ?_
  refine k_istore (L2 := [_, _, _, _, _, _, _, _]) eX0_ask_33 (Nat.le_of_ble_eq_true rfl) rfl ?_
  refine k_iload eX0_ask_35 rfl ?_
  refine k_if_eqN 75 eX0_ask_37 (by decide) (by omega) (fun c_37 => ?_) (fun c_37 => by exfalso; omega)
  refine k_iload eX0_ask_75 rfl ?_
  refine cS1 (M' := MX0_above) eX0_ask_77 mX0_33 wX0_above sX0_above rfl (pX0_above (S := S) (k := 4) (by decide)) (by decide) (Nat.le_of_ble_eq_true rfl) ?_
  refine k_topi (nI 0) (by decide) ?_
  refine k_istore (L2 := [_, _, _, _, _, _, _, _]) eX0_ask_80 (Nat.le_of_ble_eq_true rfl) rfl ?_
  refine k_iincN (g := 1) (a := 0) (L2 := [_, _, _, _, _, _, _, _]) eX0_ask_82 (Nat.le_of_ble_eq_true rfl) rfl rfl ?_
  refine k_goto 15 eX0_ask_85 (by decide) ?_
  refine k_iload eX0_ask_15 rfl ?_
  refine k_bipush (v := nI 8) eX0_ask_17 (by decide) ?_
  refine k_icmp_gtN 88 eX0_ask_19 (by decide) (by omega) (by omega) (fun c_19 => by exfalso; omega) (fun c_19 => ?_)
  refine k_iload eX0_ask_22 rfl ?_
  refine k_if_ltN 88 eX0_ask_24 (by decide) (by omega) ?_
  refine k_iload eX0_ask_27 rfl ?_
  refine k_iload_n eX0_ask_29 rfl ?_
  refine cS1 (M' := MX0_bodyOf) eX0_ask_30 mX0_64 wX0_bodyOf sX0_bodyOf rfl (pX0_bodyOf (S := S) (k := 0) (s := 3) (by decide) (by decide)) (by decide) (Nat.le_of_ble_eq_true rfl) ?_
  refine k_topi (nI 0) (by decide) ?_
  refine k_istore (L2 := [_, _, _, _, _, _, _, _]) eX0_ask_33 (Nat.le_of_ble_eq_true rfl) rfl ?_
  refine k_iload eX0_ask_35 rfl ?_
  refine k_if_eqN 75 eX0_ask_37 (by decide) (by omega) (fun c_37 => ?_) (fun c_37 => by exfalso; omega)
  refine k_iload eX0_ask_75 rfl ?_
  refine cS1 (M' := MX0_above) eX0_ask_77 mX0_33 wX0_above sX0_above rfl (pX0_above (S := S) (k := 0) (by decide)) (by decide) (Nat.le_of_ble_eq_true rfl) ?_
  refine k_topi (nI 8) (by decide) ?_
  refine k_istore (L2 := [_, _, _, _, _, _, _, _]) eX0_ask_80 (Nat.le_of_ble_eq_true rfl) rfl ?_
  refine k_iincN (g := 1) (a := 1) (L2 := [_, _, _, _, _, _, _, _]) eX0_ask_82 (Nat.le_of_ble_eq_true rfl) rfl rfl ?_
  refine k_goto 15 eX0_ask_85 (by decide) ?_
  refine k_iload eX0_ask_15 rfl ?_
  refine k_bipush (v := nI 8) eX0_ask_17 (by decide) ?_
  refine k_icmp_gtN 88 eX0_ask_19 (by decide) (by omega) (by omega) (fun c_19 => by exfalso; omega) (fun c_19 => ?_)
  refine k_iload eX0_ask_22 rfl ?_
  refine k_if_ltN 88 eX0_ask_24 (by decide) (by omega) ?_
  refine k_iload eX0_ask_27 rfl ?_
  refine k_iload_n eX0_ask_29 rfl ?_
  refine cS1 (M' := MX0_bodyOf) eX0_ask_30 mX0_64 wX0_bodyOf sX0_bodyOf rfl (pX0_bodyOf (S := S) (k := 8) (s := 3) (by decide) (by decide)) (by decide) (Nat.le_of_ble_eq_true rfl) ?_
  refine k_topi (nI 2) (by decide) ?_
  refine k_istore (L2 := [_, _, _, _, _, _, _, _]) eX0_ask_33 (Nat.le_of_ble_eq_true rfl) rfl ?_
  refine k_iload eX0_ask_35 rfl ?_
  refine k_if_eqN 75 eX0_ask_37 (by decide) (by omega) (fun c_37 => by exfalso; omega) (fun c_37 => ?_)
  refine k_aload_n eX0_ask_40 rfl ?_
  refine GX0_19 eX0_ask_41 rfl ?_
  refine k_aload_n eX0_ask_44 rfl ?_
  refine GX0_22 eX0_ask_45 rfl ?_
  refine k_topi (nI n) hran ?_
  refine k_iload eX0_ask_48 rfl ?_
  refine cN0 (M' := MX11_write) eX0_ask_50 mX0_25 wX11_write sX11_write rfl (pX11_writeN (j := n) (v := nI 2) (ar6 _) (by omega) (by decide) (as6 _ _)) (by decide) (Nat.le_of_ble_eq_true rfl) ?_
  refine k_aload_n eX0_ask_53 rfl ?_
  refine k_dup eX0_ask_54 rfl ?_
  refine GX0_22 eX0_ask_55 rfl ?_
  refine k_topi (nI n) hran ?_
  refine k_iconst (v := nI 1) eX0_ask_58 (by decide) ?_
  refine k_iaddN eX0_ask_59 ?_
  refine PX0_22 eX0_ask_60 rfl ?_
  refine k_heap (h2 := hp (trc1 S n 2)) rfl ?_
  refine k_aload_n eX0_ask_63 rfl ?_
  refine k_iload eX0_ask_64 rfl ?_
  refine k_iload_n eX0_ask_66 rfl ?_
  refine k_iload eX0_ask_67 rfl ?_
  refine k_iconst (v := nI 1) eX0_ask_69 (by decide) ?_
  refine k_iaddN eX0_ask_70 ?_
  refine cV1 (M' := MX0_run) eX0_ask_71 mX0_68 wX0_run vX0_run ⟨_, _, _, rfl, rfl, rfl⟩ rfl (pX0_run_4_2 (S := (trc1 S n 2)) (n := n + 1) (dep := (dep + 1)) (nb := nb) (t1K hK) (t1N hnb) rfl (by omega) (by omega) (x)) (by decide) (Nat.le_of_ble_eq_true rfl) ?_
  refine k_ireturn eX0_ask_74 rfl rfl ?_
  exact ⟨rfl, congrArg hp (trc_cons S n 2 [10, 1, 50, 11, 1]).symm⟩
set_option maxHeartbeats 400000 in
theorem pX0_run_5_1 {S : k_S} {n dep : Nat} {nb : Int32} (hK : S.1 205 = nI 5) (hnb : S.1 204 = nb) (hran : S.1 203 = nI n) (hn : n + 0 ≤ 24) (hdep : dep + 0 ≤ 40) (x : Int32) : Sp 0 0 0 MX0_run [.ref 4, .int (nI 1), .int (x), .int (nI dep)] (hp S) (Rt (some (.int ((x + nb)))) (hp S)) := by
  refine Sp_of (by decide +kernel) (Nat.le_of_ble_eq_true rfl) ?_
  show AW none MX0_run 0 0 0 0 [.ref 4, .int (nI 1), .int (x), .int (nI dep)] [] (hp S) _
  refine k_iload_n eX0_run_0 rfl ?_
  refine k_look 116 eX0_run_1 (by decide) (off := 115) (by decide) (by decide) ?_
  refine k_iload_n eX0_run_116 rfl ?_
  refine k_aload_n eX0_run_117 rfl ?_
  refine GX0_45 eX0_run_118 rfl ?_
  refine k_topi (nb) hnb ?_
  refine k_iadd eX0_run_121 ?_
  refine k_ireturn eX0_run_122 rfl rfl ?_
  exact ⟨rfl, rfl⟩
set_option maxHeartbeats 400000 in
theorem pX0_ask_5_0_0 {S : k_S} {n dep : Nat} {nb : Int32} (hK : S.1 205 = nI 5) (hnb : S.1 204 = nb) (hran : S.1 203 = nI n) (hn : n + 1 ≤ 24) (hdep : dep + 1 ≤ 40) (x : Int32) : Sp 1 0 0 MX0_ask [.ref 4, .int (nI 0), .int (nI 0), .int (x), .int (nI dep)] (hp S) (Rt (some (.int ((x + nb)))) (hp (trc S n [1]))) := by
  refine Sp_of (by decide +kernel) (Nat.le_of_ble_eq_true rfl) ?_
  show AW none MX0_ask 1 0 0 0 [.ref 4, .int (nI 0), .int (nI 0), .int (x), .int (nI dep), .null, .null, .null] [] (hp S) _
  refine k_iload eX0_ask_0 rfl ?_
  refine k_bipush (v := nI 40) eX0_ask_2 (by decide) ?_
  refine k_icmp_leN 9 eX0_ask_4 (by decide) (by omega) (by omega) (fun c_4 => ?_) (fun c_4 => by exfalso; omega)
  refine k_iload_n eX0_ask_9 rfl ?_
  refine k_istore (L2 := [_, _, _, _, _, _, _, _]) eX0_ask_10 (Nat.le_of_ble_eq_true rfl) rfl ?_
  refine k_iconst (v := nI 0) eX0_ask_12 (by decide) ?_
  refine k_istore (L2 := [_, _, _, _, _, _, _, _]) eX0_ask_13 (Nat.le_of_ble_eq_true rfl) rfl ?_
  refine k_iload eX0_ask_15 rfl ?_
  refine k_bipush (v := nI 8) eX0_ask_17 (by decide) ?_
  refine k_icmp_gtN 88 eX0_ask_19 (by decide) (by omega) (by omega) (fun c_19 => by exfalso; omega) (fun c_19 => ?_)
  refine k_iload eX0_ask_22 rfl ?_
  refine k_if_ltN 88 eX0_ask_24 (by decide) (by omega) ?_
  refine k_iload eX0_ask_27 rfl ?_
  refine k_iload_n eX0_ask_29 rfl ?_
  refine cS1 (M' := MX0_bodyOf) eX0_ask_30 mX0_64 wX0_bodyOf sX0_bodyOf rfl (pX0_bodyOf (S := S) (k := 0) (s := 0) (by decide) (by decide)) (by decide) (Nat.le_of_ble_eq_true rfl) ?_
  refine k_topi (nI 0) (by decide) ?_
  refine k_istore (L2 := [_, _, _, _, _, _, _, _]) eX0_ask_33 (Nat.le_of_ble_eq_true rfl) rfl ?_
  refine k_iload eX0_ask_35 rfl ?_
  refine k_if_eqN 75 eX0_ask_37 (by decide) (by omega) (fun c_37 => ?_) (fun c_37 => by exfalso; omega)
  refine k_iload eX0_ask_75 rfl ?_
  refine cS1 (M' := MX0_above) eX0_ask_77 mX0_33 wX0_above sX0_above rfl (pX0_above (S := S) (k := 0) (by decide)) (by decide) (Nat.le_of_ble_eq_true rfl) ?_
  refine k_topi (nI 8) (by decide) ?_
  refine k_istore (L2 := [_, _, _, _, _, _, _, _]) eX0_ask_80 (Nat.le_of_ble_eq_true rfl) rfl ?_
  refine k_iincN (g := 1) (a := 0) (L2 := [_, _, _, _, _, _, _, _]) eX0_ask_82 (Nat.le_of_ble_eq_true rfl) rfl rfl ?_
  refine k_goto 15 eX0_ask_85 (by decide) ?_
  refine k_iload eX0_ask_15 rfl ?_
  refine k_bipush (v := nI 8) eX0_ask_17 (by decide) ?_
  refine k_icmp_gtN 88 eX0_ask_19 (by decide) (by omega) (by omega) (fun c_19 => by exfalso; omega) (fun c_19 => ?_)
  refine k_iload eX0_ask_22 rfl ?_
  refine k_if_ltN 88 eX0_ask_24 (by decide) (by omega) ?_
  refine k_iload eX0_ask_27 rfl ?_
  refine k_iload_n eX0_ask_29 rfl ?_
  refine cS1 (M' := MX0_bodyOf) eX0_ask_30 mX0_64 wX0_bodyOf sX0_bodyOf rfl (pX0_bodyOf (S := S) (k := 8) (s := 0) (by decide) (by decide)) (by decide) (Nat.le_of_ble_eq_true rfl) ?_
  refine k_topi (nI 1) (by decide) ?_
  refine k_istore (L2 := [_, _, _, _, _, _, _, _]) eX0_ask_33 (Nat.le_of_ble_eq_true rfl) rfl ?_
  refine k_iload eX0_ask_35 rfl ?_
  refine k_if_eqN 75 eX0_ask_37 (by decide) (by omega) (fun c_37 => by exfalso; omega) (fun c_37 => ?_)
  refine k_aload_n eX0_ask_40 rfl ?_
  refine GX0_19 eX0_ask_41 rfl ?_
  refine k_aload_n eX0_ask_44 rfl ?_
  refine GX0_22 eX0_ask_45 rfl ?_
  refine k_topi (nI n) hran ?_
  refine k_iload eX0_ask_48 rfl ?_
  refine cN0 (M' := MX11_write) eX0_ask_50 mX0_25 wX11_write sX11_write rfl (pX11_writeN (j := n) (v := nI 1) (ar6 _) (by omega) (by decide) (as6 _ _)) (by decide) (Nat.le_of_ble_eq_true rfl) ?_
  refine k_aload_n eX0_ask_53 rfl ?_
  refine k_dup eX0_ask_54 rfl ?_
  refine GX0_22 eX0_ask_55 rfl ?_
  refine k_topi (nI n) hran ?_
  refine k_iconst (v := nI 1) eX0_ask_58 (by decide) ?_
  refine k_iaddN eX0_ask_59 ?_
  refine PX0_22 eX0_ask_60 rfl ?_
  refine k_heap (h2 := hp (trc1 S n 1)) rfl ?_
  refine k_aload_n eX0_ask_63 rfl ?_
  refine k_iload eX0_ask_64 rfl ?_
  refine k_iload_n eX0_ask_66 rfl ?_
  refine k_iload eX0_ask_67 rfl ?_
  refine k_iconst (v := nI 1) eX0_ask_69 (by decide) ?_
  refine k_iaddN eX0_ask_70 ?_
  refine cV1 (M' := MX0_run) eX0_ask_71 mX0_68 wX0_run vX0_run ⟨_, _, _, rfl, rfl, rfl⟩ rfl (pX0_run_5_1 (S := (trc1 S n 1)) (n := n + 1) (dep := (dep + 1)) (nb := nb) (t1K hK) (t1N hnb) rfl (by omega) (by omega) (x)) (by decide) (Nat.le_of_ble_eq_true rfl) ?_
  refine k_ireturn eX0_ask_74 rfl rfl ?_
  exact ⟨rfl, rfl⟩
set_option maxHeartbeats 400000 in
theorem pX0_run_5_20 {S : k_S} {n dep : Nat} {nb : Int32} (hK : S.1 205 = nI 5) (hnb : S.1 204 = nb) (hran : S.1 203 = nI n) (hn : n + 1 ≤ 24) (hdep : dep + 1 ≤ 40) (x : Int32) : Sp 2 0 0 MX0_run [.ref 4, .int (nI 20), .int (x), .int (nI dep)] (hp S) (Rt (some (.int (((x + nb) + nI 3)))) (hp (trc S n [1]))) := by
  refine Sp_of (by decide +kernel) (Nat.le_of_ble_eq_true rfl) ?_
  show AW none MX0_run 2 0 0 0 [.ref 4, .int (nI 20), .int (x), .int (nI dep)] [] (hp S) _
  refine k_iload_n eX0_run_0 rfl ?_
  refine k_look 156 eX0_run_1 (by decide) (off := 155) (by decide) (by decide) ?_
  refine k_aload_n eX0_run_156 rfl ?_
  refine k_iconst (v := nI 1) eX0_run_157 (by decide) ?_
  refine cS1 (M' := MX0_above) eX0_run_158 mX0_33 wX0_above sX0_above rfl (pX0_above (S := S) (k := 1) (by decide)) (by decide) (Nat.le_of_ble_eq_true rfl) ?_
  refine k_topi (nI 0) (by decide) ?_
  refine k_iconst (v := nI 0) eX0_run_161 (by decide) ?_
  refine k_iload_n eX0_run_162 rfl ?_
  refine k_iload_n eX0_run_163 rfl ?_
  refine cV1 (M' := MX0_ask) eX0_run_164 mX0_54 wX0_ask vX0_ask ⟨_, _, _, rfl, rfl, rfl⟩ rfl (pX0_ask_5_0_0 (S := S) (n := n) (dep := dep) (nb := nb) hK hnb hran (by omega) (by omega) (x)) (by decide) (Nat.le_of_ble_eq_true rfl) ?_
  refine k_iconst (v := nI 3) eX0_run_167 (by decide) ?_
  refine k_iadd eX0_run_168 ?_
  refine k_ireturn eX0_run_169 rfl rfl ?_
  exact ⟨rfl, rfl⟩
set_option maxHeartbeats 400000 in
theorem pX0_ask_5_5_0 {S : k_S} {n dep : Nat} {nb : Int32} (hK : S.1 205 = nI 5) (hnb : S.1 204 = nb) (hran : S.1 203 = nI n) (hn : n + 2 ≤ 24) (hdep : dep + 2 ≤ 40) (x : Int32) : Sp 3 0 0 MX0_ask [.ref 4, .int (nI 5), .int (nI 0), .int (x), .int (nI dep)] (hp S) (Rt (some (.int (((x + nb) + nI 3)))) (hp (trc S n [20, 1]))) := by
  refine Sp_of (by decide +kernel) (Nat.le_of_ble_eq_true rfl) ?_
  show AW none MX0_ask 3 0 0 0 [.ref 4, .int (nI 5), .int (nI 0), .int (x), .int (nI dep), .null, .null, .null] [] (hp S) _
  refine k_iload eX0_ask_0 rfl ?_
  refine k_bipush (v := nI 40) eX0_ask_2 (by decide) ?_
  refine k_icmp_leN 9 eX0_ask_4 (by decide) (by omega) (by omega) (fun c_4 => ?_) (fun c_4 => by exfalso; omega)
  refine k_iload_n eX0_ask_9 rfl ?_
  refine k_istore (L2 := [_, _, _, _, _, _, _, _]) eX0_ask_10 (Nat.le_of_ble_eq_true rfl) rfl ?_
  refine k_iconst (v := nI 0) eX0_ask_12 (by decide) ?_
  refine k_istore (L2 := [_, _, _, _, _, _, _, _]) eX0_ask_13 (Nat.le_of_ble_eq_true rfl) rfl ?_
  refine k_iload eX0_ask_15 rfl ?_
  refine k_bipush (v := nI 8) eX0_ask_17 (by decide) ?_
  refine k_icmp_gtN 88 eX0_ask_19 (by decide) (by omega) (by omega) (fun c_19 => by exfalso; omega) (fun c_19 => ?_)
  refine k_iload eX0_ask_22 rfl ?_
  refine k_if_ltN 88 eX0_ask_24 (by decide) (by omega) ?_
  refine k_iload eX0_ask_27 rfl ?_
  refine k_iload_n eX0_ask_29 rfl ?_
  refine cS1 (M' := MX0_bodyOf) eX0_ask_30 mX0_64 wX0_bodyOf sX0_bodyOf rfl (pX0_bodyOf (S := S) (k := 5) (s := 0) (by decide) (by decide)) (by decide) (Nat.le_of_ble_eq_true rfl) ?_
  refine k_topi (nI 0) (by decide) ?_
  refine k_istore (L2 := [_, _, _, _, _, _, _, _]) eX0_ask_33 (Nat.le_of_ble_eq_true rfl) rfl ?_
  refine k_iload eX0_ask_35 rfl ?_
  refine k_if_eqN 75 eX0_ask_37 (by decide) (by omega) (fun c_37 => ?_) (fun c_37 => by exfalso; omega)
  refine k_iload eX0_ask_75 rfl ?_
  refine cS1 (M' := MX0_above) eX0_ask_77 mX0_33 wX0_above sX0_above rfl (pX0_above (S := S) (k := 5) (by decide)) (by decide) (Nat.le_of_ble_eq_true rfl) ?_
  refine k_topi (nI 1) (by decide) ?_
  refine k_istore (L2 := [_, _, _, _, _, _, _, _]) eX0_ask_80 (Nat.le_of_ble_eq_true rfl) rfl ?_
  refine k_iincN (g := 1) (a := 0) (L2 := [_, _, _, _, _, _, _, _]) eX0_ask_82 (Nat.le_of_ble_eq_true rfl) rfl rfl ?_
  refine k_goto 15 eX0_ask_85 (by decide) ?_
  refine k_iload eX0_ask_15 rfl ?_
  refine k_bipush (v := nI 8) eX0_ask_17 (by decide) ?_
  refine k_icmp_gtN 88 eX0_ask_19 (by decide) (by omega) (by omega) (fun c_19 => by exfalso; omega) (fun c_19 => ?_)
  refine k_iload eX0_ask_22 rfl ?_
  refine k_if_ltN 88 eX0_ask_24 (by decide) (by omega) ?_
  refine k_iload eX0_ask_27 rfl ?_
  refine k_iload_n eX0_ask_29 rfl ?_
  refine cS1 (M' := MX0_bodyOf) eX0_ask_30 mX0_64 wX0_bodyOf sX0_bodyOf rfl (pX0_bodyOf (S := S) (k := 1) (s := 0) (by decide) (by decide)) (by decide) (Nat.le_of_ble_eq_true rfl) ?_
  refine k_topi (nI 20) (by decide) ?_
  refine k_istore (L2 := [_, _, _, _, _, _, _, _]) eX0_ask_33 (Nat.le_of_ble_eq_true rfl) rfl ?_
  refine k_iload eX0_ask_35 rfl ?_
  refine k_if_eqN 75 eX0_ask_37 (by decide) (by omega) (fun c_37 => by exfalso; omega) (fun c_37 => ?_)
  refine k_aload_n eX0_ask_40 rfl ?_
  refine GX0_19 eX0_ask_41 rfl ?_
  refine k_aload_n eX0_ask_44 rfl ?_
  refine GX0_22 eX0_ask_45 rfl ?_
  refine k_topi (nI n) hran ?_
  refine k_iload eX0_ask_48 rfl ?_
  refine cN0 (M' := MX11_write) eX0_ask_50 mX0_25 wX11_write sX11_write rfl (pX11_writeN (j := n) (v := nI 20) (ar6 _) (by omega) (by decide) (as6 _ _)) (by decide) (Nat.le_of_ble_eq_true rfl) ?_
  refine k_aload_n eX0_ask_53 rfl ?_
  refine k_dup eX0_ask_54 rfl ?_
  refine GX0_22 eX0_ask_55 rfl ?_
  refine k_topi (nI n) hran ?_
  refine k_iconst (v := nI 1) eX0_ask_58 (by decide) ?_
  refine k_iaddN eX0_ask_59 ?_
  refine PX0_22 eX0_ask_60 rfl ?_
  refine k_heap (h2 := hp (trc1 S n 20)) rfl ?_
  refine k_aload_n eX0_ask_63 rfl ?_
  refine k_iload eX0_ask_64 rfl ?_
  refine k_iload_n eX0_ask_66 rfl ?_
  refine k_iload eX0_ask_67 rfl ?_
  refine k_iconst (v := nI 1) eX0_ask_69 (by decide) ?_
  refine k_iaddN eX0_ask_70 ?_
  refine cV1 (M' := MX0_run) eX0_ask_71 mX0_68 wX0_run vX0_run ⟨_, _, _, rfl, rfl, rfl⟩ rfl (pX0_run_5_20 (S := (trc1 S n 20)) (n := n + 1) (dep := (dep + 1)) (nb := nb) (t1K hK) (t1N hnb) rfl (by omega) (by omega) (x)) (by decide) (Nat.le_of_ble_eq_true rfl) ?_
  refine k_ireturn eX0_ask_74 rfl rfl ?_
  exact ⟨rfl, congrArg hp (trc_cons S n 20 [1]).symm⟩
set_option maxHeartbeats 400000 in
theorem pX0_own_5_0 {S : k_S} {n dep : Nat} {nb : Int32} (hK : S.1 205 = nI 5) (hnb : S.1 204 = nb) (hran : S.1 203 = nI n) (hn : n + 2 ≤ 24) (hdep : dep + 2 ≤ 40) (x : Int32) : Sp 4 0 0 MX0_own [.ref 4, .int (nI 0), .int (x), .int (nI dep)] (hp S) (Rt (some (.int (((x + nb) + nI 3)))) (hp (trc S n [20, 1]))) := by
  refine Sp_of (by decide +kernel) (Nat.le_of_ble_eq_true rfl) ?_
  show AW none MX0_own 4 0 0 0 [.ref 4, .int (nI 0), .int (x), .int (nI dep)] [] (hp S) _
  refine k_aload_n eX0_own_0 rfl ?_
  refine k_aload_n eX0_own_1 rfl ?_
  refine GX0_51 eX0_own_2 rfl ?_
  refine k_topi (nI 5) hK ?_
  refine k_iload_n eX0_own_5 rfl ?_
  refine k_iload_n eX0_own_6 rfl ?_
  refine k_iload_n eX0_own_7 rfl ?_
  refine cV1 (M' := MX0_ask) eX0_own_8 mX0_54 wX0_ask vX0_ask ⟨_, _, _, rfl, rfl, rfl⟩ rfl (pX0_ask_5_5_0 (S := S) (n := n) (dep := dep) (nb := nb) hK hnb hran (by omega) (by omega) (x)) (by decide) (Nat.le_of_ble_eq_true rfl) ?_
  refine k_ireturn eX0_own_11 rfl rfl ?_
  exact ⟨rfl, rfl⟩
set_option maxHeartbeats 400000 in
theorem pX0_run_5_10 {S : k_S} {n dep : Nat} {nb : Int32} (hK : S.1 205 = nI 5) (hnb : S.1 204 = nb) (hran : S.1 203 = nI n) (hn : n + 2 ≤ 24) (hdep : dep + 2 ≤ 40) (x : Int32) : Sp 5 0 0 MX0_run [.ref 4, .int (nI 10), .int (x), .int (nI dep)] (hp S) (Rt (some (.int ((((x + nb) + nI 3) * nI 2)))) (hp (trc S n [20, 1]))) := by
  refine Sp_of (by decide +kernel) (Nat.le_of_ble_eq_true rfl) ?_
  show AW none MX0_run 5 0 0 0 [.ref 4, .int (nI 10), .int (x), .int (nI dep)] [] (hp S) _
  refine k_iload_n eX0_run_0 rfl ?_
  refine k_look 139 eX0_run_1 (by decide) (off := 138) (by decide) (by decide) ?_
  refine k_aload_n eX0_run_139 rfl ?_
  refine k_iconst (v := nI 0) eX0_run_140 (by decide) ?_
  refine k_iload_n eX0_run_141 rfl ?_
  refine k_iload_n eX0_run_142 rfl ?_
  refine cV1 (M' := MX0_own) eX0_run_143 mX0_72 wX0_own vX0_own ⟨_, _, _, rfl, rfl, rfl⟩ rfl (pX0_own_5_0 (S := S) (n := n) (dep := dep) (nb := nb) hK hnb hran (by omega) (by omega) (x)) (by decide) (Nat.le_of_ble_eq_true rfl) ?_
  refine k_iconst (v := nI 2) eX0_run_146 (by decide) ?_
  refine k_imul eX0_run_147 ?_
  refine k_ireturn eX0_run_148 rfl rfl ?_
  exact ⟨rfl, rfl⟩
set_option maxHeartbeats 400000 in
theorem pX0_ask_5_5_1 {S : k_S} {n dep : Nat} {nb : Int32} (hK : S.1 205 = nI 5) (hnb : S.1 204 = nb) (hran : S.1 203 = nI n) (hn : n + 3 ≤ 24) (hdep : dep + 3 ≤ 40) (x : Int32) : Sp 6 0 0 MX0_ask [.ref 4, .int (nI 5), .int (nI 1), .int (x), .int (nI dep)] (hp S) (Rt (some (.int ((((x + nb) + nI 3) * nI 2)))) (hp (trc S n [10, 20, 1]))) := by
  refine Sp_of (by decide +kernel) (Nat.le_of_ble_eq_true rfl) ?_
  show AW none MX0_ask 6 0 0 0 [.ref 4, .int (nI 5), .int (nI 1), .int (x), .int (nI dep), .null, .null, .null] [] (hp S) _
  refine k_iload eX0_ask_0 rfl ?_
  refine k_bipush (v := nI 40) eX0_ask_2 (by decide) ?_
  refine k_icmp_leN 9 eX0_ask_4 (by decide) (by omega) (by omega) (fun c_4 => ?_) (fun c_4 => by exfalso; omega)
  refine k_iload_n eX0_ask_9 rfl ?_
  refine k_istore (L2 := [_, _, _, _, _, _, _, _]) eX0_ask_10 (Nat.le_of_ble_eq_true rfl) rfl ?_
  refine k_iconst (v := nI 0) eX0_ask_12 (by decide) ?_
  refine k_istore (L2 := [_, _, _, _, _, _, _, _]) eX0_ask_13 (Nat.le_of_ble_eq_true rfl) rfl ?_
  refine k_iload eX0_ask_15 rfl ?_
  refine k_bipush (v := nI 8) eX0_ask_17 (by decide) ?_
  refine k_icmp_gtN 88 eX0_ask_19 (by decide) (by omega) (by omega) (fun c_19 => by exfalso; omega) (fun c_19 => ?_)
  refine k_iload eX0_ask_22 rfl ?_
  refine k_if_ltN 88 eX0_ask_24 (by decide) (by omega) ?_
  refine k_iload eX0_ask_27 rfl ?_
  refine k_iload_n eX0_ask_29 rfl ?_
  refine cS1 (M' := MX0_bodyOf) eX0_ask_30 mX0_64 wX0_bodyOf sX0_bodyOf rfl (pX0_bodyOf (S := S) (k := 5) (s := 1) (by decide) (by decide)) (by decide) (Nat.le_of_ble_eq_true rfl) ?_
  refine k_topi (nI 0) (by decide) ?_
  refine k_istore (L2 := [_, _, _, _, _, _, _, _]) eX0_ask_33 (Nat.le_of_ble_eq_true rfl) rfl ?_
  refine k_iload eX0_ask_35 rfl ?_
  refine k_if_eqN 75 eX0_ask_37 (by decide) (by omega) (fun c_37 => ?_) (fun c_37 => by exfalso; omega)
  refine k_iload eX0_ask_75 rfl ?_
  refine cS1 (M' := MX0_above) eX0_ask_77 mX0_33 wX0_above sX0_above rfl (pX0_above (S := S) (k := 5) (by decide)) (by decide) (Nat.le_of_ble_eq_true rfl) ?_
  refine k_topi (nI 1) (by decide) ?_
  refine k_istore (L2 := [_, _, _, _, _, _, _, _]) eX0_ask_80 (Nat.le_of_ble_eq_true rfl) rfl ?_
  refine k_iincN (g := 1) (a := 0) (L2 := [_, _, _, _, _, _, _, _]) eX0_ask_82 (Nat.le_of_ble_eq_true rfl) rfl rfl ?_
  refine k_goto 15 eX0_ask_85 (by decide) ?_
  refine k_iload eX0_ask_15 rfl ?_
  refine k_bipush (v := nI 8) eX0_ask_17 (by decide) ?_
  refine k_icmp_gtN 88 eX0_ask_19 (by decide) (by omega) (by omega) (fun c_19 => by exfalso; omega) (fun c_19 => ?_)
  refine k_iload eX0_ask_22 rfl ?_
  refine k_if_ltN 88 eX0_ask_24 (by decide) (by omega) ?_
  refine k_iload eX0_ask_27 rfl ?_
  refine k_iload_n eX0_ask_29 rfl ?_
  refine cS1 (M' := MX0_bodyOf) eX0_ask_30 mX0_64 wX0_bodyOf sX0_bodyOf rfl (pX0_bodyOf (S := S) (k := 1) (s := 1) (by decide) (by decide)) (by decide) (Nat.le_of_ble_eq_true rfl) ?_
  refine k_topi (nI 0) (by decide) ?_
  refine k_istore (L2 := [_, _, _, _, _, _, _, _]) eX0_ask_33 (Nat.le_of_ble_eq_true rfl) rfl ?_
  refine k_iload eX0_ask_35 rfl ?_
  refine k_if_eqN 75 eX0_ask_37 (by decide) (by omega) (fun c_37 => ?_) (fun c_37 => by exfalso; omega)
  refine k_iload eX0_ask_75 rfl ?_
  refine cS1 (M' := MX0_above) eX0_ask_77 mX0_33 wX0_above sX0_above rfl (pX0_above (S := S) (k := 1) (by decide)) (by decide) (Nat.le_of_ble_eq_true rfl) ?_
  refine k_topi (nI 0) (by decide) ?_
  refine k_istore (L2 := [_, _, _, _, _, _, _, _]) eX0_ask_80 (Nat.le_of_ble_eq_true rfl) rfl ?_
  refine k_iincN (g := 1) (a := 1) (L2 := [_, _, _, _, _, _, _, _]) eX0_ask_82 (Nat.le_of_ble_eq_true rfl) rfl rfl ?_
  refine k_goto 15 eX0_ask_85 (by decide) ?_
  refine k_iload eX0_ask_15 rfl ?_
  refine k_bipush (v := nI 8) eX0_ask_17 (by decide) ?_
  refine k_icmp_gtN 88 eX0_ask_19 (by decide) (by omega) (by omega) (fun c_19 => by exfalso; omega) (fun c_19 => ?_)
  refine k_iload eX0_ask_22 rfl ?_
  refine k_if_ltN 88 eX0_ask_24 (by decide) (by omega) ?_
  refine k_iload eX0_ask_27 rfl ?_
  refine k_iload_n eX0_ask_29 rfl ?_
  refine cS1 (M' := MX0_bodyOf) eX0_ask_30 mX0_64 wX0_bodyOf sX0_bodyOf rfl (pX0_bodyOf (S := S) (k := 0) (s := 1) (by decide) (by decide)) (by decide) (Nat.le_of_ble_eq_true rfl) ?_
  refine k_topi (nI 10) (by decide) ?_
  refine k_istore (L2 := [_, _, _, _, _, _, _, _]) eX0_ask_33 (Nat.le_of_ble_eq_true rfl) rfl ?_
  refine k_iload eX0_ask_35 rfl ?_
  refine k_if_eqN 75 eX0_ask_37 (by decide) (by omega) (fun c_37 => by exfalso; omega) (fun c_37 => ?_)
  refine k_aload_n eX0_ask_40 rfl ?_
  refine GX0_19 eX0_ask_41 rfl ?_
  refine k_aload_n eX0_ask_44 rfl ?_
  refine GX0_22 eX0_ask_45 rfl ?_
  refine k_topi (nI n) hran ?_
  refine k_iload eX0_ask_48 rfl ?_
  refine cN0 (M' := MX11_write) eX0_ask_50 mX0_25 wX11_write sX11_write rfl (pX11_writeN (j := n) (v := nI 10) (ar6 _) (by omega) (by decide) (as6 _ _)) (by decide) (Nat.le_of_ble_eq_true rfl) ?_
  refine k_aload_n eX0_ask_53 rfl ?_
  refine k_dup eX0_ask_54 rfl ?_
  refine GX0_22 eX0_ask_55 rfl ?_
  refine k_topi (nI n) hran ?_
  refine k_iconst (v := nI 1) eX0_ask_58 (by decide) ?_
  refine k_iaddN eX0_ask_59 ?_
  refine PX0_22 eX0_ask_60 rfl ?_
  refine k_heap (h2 := hp (trc1 S n 10)) rfl ?_
  refine k_aload_n eX0_ask_63 rfl ?_
  refine k_iload eX0_ask_64 rfl ?_
  refine k_iload_n eX0_ask_66 rfl ?_
  refine k_iload eX0_ask_67 rfl ?_
  refine k_iconst (v := nI 1) eX0_ask_69 (by decide) ?_
  refine k_iaddN eX0_ask_70 ?_
  refine cV1 (M' := MX0_run) eX0_ask_71 mX0_68 wX0_run vX0_run ⟨_, _, _, rfl, rfl, rfl⟩ rfl (pX0_run_5_10 (S := (trc1 S n 10)) (n := n + 1) (dep := (dep + 1)) (nb := nb) (t1K hK) (t1N hnb) rfl (by omega) (by omega) (x)) (by decide) (Nat.le_of_ble_eq_true rfl) ?_
  refine k_ireturn eX0_ask_74 rfl rfl ?_
  exact ⟨rfl, congrArg hp (trc_cons S n 10 [20, 1]).symm⟩
set_option maxHeartbeats 400000 in
theorem pX0_run_5_11 {S : k_S} {n dep : Nat} {nb : Int32} (hK : S.1 205 = nI 5) (hnb : S.1 204 = nb) (hran : S.1 203 = nI n) (hn : n + 0 ≤ 24) (hdep : dep + 0 ≤ 40) (x : Int32) : Sp 0 0 0 MX0_run [.ref 4, .int (nI 11), .int (x), .int (nI dep)] (hp S) (Rt (some (.int ((x ^^^ nb)))) (hp S)) := by
  refine Sp_of (by decide +kernel) (Nat.le_of_ble_eq_true rfl) ?_
  show AW none MX0_run 0 0 0 0 [.ref 4, .int (nI 11), .int (x), .int (nI dep)] [] (hp S) _
  refine k_iload_n eX0_run_0 rfl ?_
  refine k_look 149 eX0_run_1 (by decide) (off := 148) (by decide) (by decide) ?_
  refine k_iload_n eX0_run_149 rfl ?_
  refine k_aload_n eX0_run_150 rfl ?_
  refine GX0_45 eX0_run_151 rfl ?_
  refine k_topi (nb) hnb ?_
  refine k_ixor eX0_run_154 ?_
  refine k_ireturn eX0_run_155 rfl rfl ?_
  exact ⟨rfl, rfl⟩
set_option maxHeartbeats 400000 in
theorem pX0_ask_5_5_2 {S : k_S} {n dep : Nat} {nb : Int32} (hK : S.1 205 = nI 5) (hnb : S.1 204 = nb) (hran : S.1 203 = nI n) (hn : n + 1 ≤ 24) (hdep : dep + 1 ≤ 40) (x : Int32) : Sp 1 0 0 MX0_ask [.ref 4, .int (nI 5), .int (nI 2), .int (x), .int (nI dep)] (hp S) (Rt (some (.int ((x ^^^ nb)))) (hp (trc S n [11]))) := by
  refine Sp_of (by decide +kernel) (Nat.le_of_ble_eq_true rfl) ?_
  show AW none MX0_ask 1 0 0 0 [.ref 4, .int (nI 5), .int (nI 2), .int (x), .int (nI dep), .null, .null, .null] [] (hp S) _
  refine k_iload eX0_ask_0 rfl ?_
  refine k_bipush (v := nI 40) eX0_ask_2 (by decide) ?_
  refine k_icmp_leN 9 eX0_ask_4 (by decide) (by omega) (by omega) (fun c_4 => ?_) (fun c_4 => by exfalso; omega)
  refine k_iload_n eX0_ask_9 rfl ?_
  refine k_istore (L2 := [_, _, _, _, _, _, _, _]) eX0_ask_10 (Nat.le_of_ble_eq_true rfl) rfl ?_
  refine k_iconst (v := nI 0) eX0_ask_12 (by decide) ?_
  refine k_istore (L2 := [_, _, _, _, _, _, _, _]) eX0_ask_13 (Nat.le_of_ble_eq_true rfl) rfl ?_
  refine k_iload eX0_ask_15 rfl ?_
  refine k_bipush (v := nI 8) eX0_ask_17 (by decide) ?_
  refine k_icmp_gtN 88 eX0_ask_19 (by decide) (by omega) (by omega) (fun c_19 => by exfalso; omega) (fun c_19 => ?_)
  refine k_iload eX0_ask_22 rfl ?_
  refine k_if_ltN 88 eX0_ask_24 (by decide) (by omega) ?_
  refine k_iload eX0_ask_27 rfl ?_
  refine k_iload_n eX0_ask_29 rfl ?_
  refine cS1 (M' := MX0_bodyOf) eX0_ask_30 mX0_64 wX0_bodyOf sX0_bodyOf rfl (pX0_bodyOf (S := S) (k := 5) (s := 2) (by decide) (by decide)) (by decide) (Nat.le_of_ble_eq_true rfl) ?_
  refine k_topi (nI 0) (by decide) ?_
  refine k_istore (L2 := [_, _, _, _, _, _, _, _]) eX0_ask_33 (Nat.le_of_ble_eq_true rfl) rfl ?_
  refine k_iload eX0_ask_35 rfl ?_
  refine k_if_eqN 75 eX0_ask_37 (by decide) (by omega) (fun c_37 => ?_) (fun c_37 => by exfalso; omega)
  refine k_iload eX0_ask_75 rfl ?_
  refine cS1 (M' := MX0_above) eX0_ask_77 mX0_33 wX0_above sX0_above rfl (pX0_above (S := S) (k := 5) (by decide)) (by decide) (Nat.le_of_ble_eq_true rfl) ?_
  refine k_topi (nI 1) (by decide) ?_
  refine k_istore (L2 := [_, _, _, _, _, _, _, _]) eX0_ask_80 (Nat.le_of_ble_eq_true rfl) rfl ?_
  refine k_iincN (g := 1) (a := 0) (L2 := [_, _, _, _, _, _, _, _]) eX0_ask_82 (Nat.le_of_ble_eq_true rfl) rfl rfl ?_
  refine k_goto 15 eX0_ask_85 (by decide) ?_
  refine k_iload eX0_ask_15 rfl ?_
  refine k_bipush (v := nI 8) eX0_ask_17 (by decide) ?_
  refine k_icmp_gtN 88 eX0_ask_19 (by decide) (by omega) (by omega) (fun c_19 => by exfalso; omega) (fun c_19 => ?_)
  refine k_iload eX0_ask_22 rfl ?_
  refine k_if_ltN 88 eX0_ask_24 (by decide) (by omega) ?_
  refine k_iload eX0_ask_27 rfl ?_
  refine k_iload_n eX0_ask_29 rfl ?_
  refine cS1 (M' := MX0_bodyOf) eX0_ask_30 mX0_64 wX0_bodyOf sX0_bodyOf rfl (pX0_bodyOf (S := S) (k := 1) (s := 2) (by decide) (by decide)) (by decide) (Nat.le_of_ble_eq_true rfl) ?_
  refine k_topi (nI 0) (by decide) ?_
  refine k_istore (L2 := [_, _, _, _, _, _, _, _]) eX0_ask_33 (Nat.le_of_ble_eq_true rfl) rfl ?_
  refine k_iload eX0_ask_35 rfl ?_
  refine k_if_eqN 75 eX0_ask_37 (by decide) (by omega) (fun c_37 => ?_) (fun c_37 => by exfalso; omega)
  refine k_iload eX0_ask_75 rfl ?_
  refine cS1 (M' := MX0_above) eX0_ask_77 mX0_33 wX0_above sX0_above rfl (pX0_above (S := S) (k := 1) (by decide)) (by decide) (Nat.le_of_ble_eq_true rfl) ?_
  refine k_topi (nI 0) (by decide) ?_
  refine k_istore (L2 := [_, _, _, _, _, _, _, _]) eX0_ask_80 (Nat.le_of_ble_eq_true rfl) rfl ?_
  refine k_iincN (g := 1) (a := 1) (L2 := [_, _, _, _, _, _, _, _]) eX0_ask_82 (Nat.le_of_ble_eq_true rfl) rfl rfl ?_
  refine k_goto 15 eX0_ask_85 (by decide) ?_
  refine k_iload eX0_ask_15 rfl ?_
  refine k_bipush (v := nI 8) eX0_ask_17 (by decide) ?_
  refine k_icmp_gtN 88 eX0_ask_19 (by decide) (by omega) (by omega) (fun c_19 => by exfalso; omega) (fun c_19 => ?_)
  refine k_iload eX0_ask_22 rfl ?_
  refine k_if_ltN 88 eX0_ask_24 (by decide) (by omega) ?_
  refine k_iload eX0_ask_27 rfl ?_
  refine k_iload_n eX0_ask_29 rfl ?_
  refine cS1 (M' := MX0_bodyOf) eX0_ask_30 mX0_64 wX0_bodyOf sX0_bodyOf rfl (pX0_bodyOf (S := S) (k := 0) (s := 2) (by decide) (by decide)) (by decide) (Nat.le_of_ble_eq_true rfl) ?_
  refine k_topi (nI 11) (by decide) ?_
  refine k_istore (L2 := [_, _, _, _, _, _, _, _]) eX0_ask_33 (Nat.le_of_ble_eq_true rfl) rfl ?_
  refine k_iload eX0_ask_35 rfl ?_
  refine k_if_eqN 75 eX0_ask_37 (by decide) (by omega) (fun c_37 => by exfalso; omega) (fun c_37 => ?_)
  refine k_aload_n eX0_ask_40 rfl ?_
  refine GX0_19 eX0_ask_41 rfl ?_
  refine k_aload_n eX0_ask_44 rfl ?_
  refine GX0_22 eX0_ask_45 rfl ?_
  refine k_topi (nI n) hran ?_
  refine k_iload eX0_ask_48 rfl ?_
  refine cN0 (M' := MX11_write) eX0_ask_50 mX0_25 wX11_write sX11_write rfl (pX11_writeN (j := n) (v := nI 11) (ar6 _) (by omega) (by decide) (as6 _ _)) (by decide) (Nat.le_of_ble_eq_true rfl) ?_
  refine k_aload_n eX0_ask_53 rfl ?_
  refine k_dup eX0_ask_54 rfl ?_
  refine GX0_22 eX0_ask_55 rfl ?_
  refine k_topi (nI n) hran ?_
  refine k_iconst (v := nI 1) eX0_ask_58 (by decide) ?_
  refine k_iaddN eX0_ask_59 ?_
  refine PX0_22 eX0_ask_60 rfl ?_
  refine k_heap (h2 := hp (trc1 S n 11)) rfl ?_
  refine k_aload_n eX0_ask_63 rfl ?_
  refine k_iload eX0_ask_64 rfl ?_
  refine k_iload_n eX0_ask_66 rfl ?_
  refine k_iload eX0_ask_67 rfl ?_
  refine k_iconst (v := nI 1) eX0_ask_69 (by decide) ?_
  refine k_iaddN eX0_ask_70 ?_
  refine cV1 (M' := MX0_run) eX0_ask_71 mX0_68 wX0_run vX0_run ⟨_, _, _, rfl, rfl, rfl⟩ rfl (pX0_run_5_11 (S := (trc1 S n 11)) (n := n + 1) (dep := (dep + 1)) (nb := nb) (t1K hK) (t1N hnb) rfl (by omega) (by omega) (x)) (by decide) (Nat.le_of_ble_eq_true rfl) ?_
  refine k_ireturn eX0_ask_74 rfl rfl ?_
  exact ⟨rfl, rfl⟩
set_option maxHeartbeats 400000 in
theorem pX0_own_5_1 {S : k_S} {n dep : Nat} {nb : Int32} (hK : S.1 205 = nI 5) (hnb : S.1 204 = nb) (hran : S.1 203 = nI n) (hn : n + 3 ≤ 24) (hdep : dep + 3 ≤ 40) (x : Int32) : Sp 7 0 0 MX0_own [.ref 4, .int (nI 1), .int (x), .int (nI dep)] (hp S) (Rt (some (.int ((((x + nb) + nI 3) * nI 2)))) (hp (trc S n [10, 20, 1]))) := by
  refine Sp_of (by decide +kernel) (Nat.le_of_ble_eq_true rfl) ?_
  show AW none MX0_own 7 0 0 0 [.ref 4, .int (nI 1), .int (x), .int (nI dep)] [] (hp S) _
  refine k_aload_n eX0_own_0 rfl ?_
  refine k_aload_n eX0_own_1 rfl ?_
  refine GX0_51 eX0_own_2 rfl ?_
  refine k_topi (nI 5) hK ?_
  refine k_iload_n eX0_own_5 rfl ?_
  refine k_iload_n eX0_own_6 rfl ?_
  refine k_iload_n eX0_own_7 rfl ?_
  refine cV1 (M' := MX0_ask) eX0_own_8 mX0_54 wX0_ask vX0_ask ⟨_, _, _, rfl, rfl, rfl⟩ rfl (pX0_ask_5_5_1 (S := S) (n := n) (dep := dep) (nb := nb) hK hnb hran (by omega) (by omega) (x)) (by decide) (Nat.le_of_ble_eq_true rfl) ?_
  refine k_ireturn eX0_own_11 rfl rfl ?_
  exact ⟨rfl, rfl⟩
set_option maxHeartbeats 400000 in
theorem pX0_own_5_2 {S : k_S} {n dep : Nat} {nb : Int32} (hK : S.1 205 = nI 5) (hnb : S.1 204 = nb) (hran : S.1 203 = nI n) (hn : n + 1 ≤ 24) (hdep : dep + 1 ≤ 40) (x : Int32) : Sp 2 0 0 MX0_own [.ref 4, .int (nI 2), .int (x), .int (nI dep)] (hp S) (Rt (some (.int ((x ^^^ nb)))) (hp (trc S n [11]))) := by
  refine Sp_of (by decide +kernel) (Nat.le_of_ble_eq_true rfl) ?_
  show AW none MX0_own 2 0 0 0 [.ref 4, .int (nI 2), .int (x), .int (nI dep)] [] (hp S) _
  refine k_aload_n eX0_own_0 rfl ?_
  refine k_aload_n eX0_own_1 rfl ?_
  refine GX0_51 eX0_own_2 rfl ?_
  refine k_topi (nI 5) hK ?_
  refine k_iload_n eX0_own_5 rfl ?_
  refine k_iload_n eX0_own_6 rfl ?_
  refine k_iload_n eX0_own_7 rfl ?_
  refine cV1 (M' := MX0_ask) eX0_own_8 mX0_54 wX0_ask vX0_ask ⟨_, _, _, rfl, rfl, rfl⟩ rfl (pX0_ask_5_5_2 (S := S) (n := n) (dep := dep) (nb := nb) hK hnb hran (by omega) (by omega) (x)) (by decide) (Nat.le_of_ble_eq_true rfl) ?_
  refine k_ireturn eX0_own_11 rfl rfl ?_
  exact ⟨rfl, rfl⟩
set_option maxHeartbeats 400000 in
theorem pX0_run_5_2 {S : k_S} {n dep : Nat} {nb : Int32} (hK : S.1 205 = nI 5) (hnb : S.1 204 = nb) (hran : S.1 203 = nI n) (hn : n + 4 ≤ 24) (hdep : dep + 3 ≤ 40) (x : Int32) : Sp 8 0 0 MX0_run [.ref 4, .int (nI 2), .int (x), .int (nI dep)] (hp S) (Rt (some (.int (((((x + nb) + nI 3) * nI 2) - ((nI 1) ^^^ nb))))) (hp (trc S n [10, 20, 1, 11]))) := by
  refine Sp_of (by decide +kernel) (Nat.le_of_ble_eq_true rfl) ?_
  show AW none MX0_run 8 0 0 0 [.ref 4, .int (nI 2), .int (x), .int (nI dep)] [] (hp S) _
  refine k_iload_n eX0_run_0 rfl ?_
  refine k_look 123 eX0_run_1 (by decide) (off := 122) (by decide) (by decide) ?_
  refine k_aload_n eX0_run_123 rfl ?_
  refine k_iconst (v := nI 1) eX0_run_124 (by decide) ?_
  refine k_iload_n eX0_run_125 rfl ?_
  refine k_iload_n eX0_run_126 rfl ?_
  refine cV1 (M' := MX0_own) eX0_run_127 mX0_72 wX0_own vX0_own ⟨_, _, _, rfl, rfl, rfl⟩ rfl (pX0_own_5_1 (S := S) (n := n) (dep := dep) (nb := nb) hK hnb hran (by omega) (by omega) (x)) (by decide) (Nat.le_of_ble_eq_true rfl) ?_
  refine k_aload_n eX0_run_130 rfl ?_
  refine k_iconst (v := nI 2) eX0_run_131 (by decide) ?_
  refine k_iconst (v := nI 1) eX0_run_132 (by decide) ?_
  refine k_iload_n eX0_run_133 rfl ?_
  refine cV1 (M' := MX0_own) eX0_run_134 mX0_72 wX0_own vX0_own ⟨_, _, _, rfl, rfl, rfl⟩ rfl (pX0_own_5_2 (S := (trc S (n) [10, 20, 1])) (n := n + 3) (dep := dep) (nb := nb) (tK hK) (tN hnb) (tR hran) (by omega) (by omega) (nI 1)) (by decide) (Nat.le_of_ble_eq_true rfl) ?_
  refine k_isub eX0_run_137 ?_
  refine k_ireturn eX0_run_138 rfl rfl ?_
  exact ⟨rfl, congrArg hp (trc_app [10, 20, 1] S n [11]).symm⟩
set_option maxHeartbeats 400000 in
theorem pX0_ask_5_1_3 {S : k_S} {n dep : Nat} {nb : Int32} (hK : S.1 205 = nI 5) (hnb : S.1 204 = nb) (hran : S.1 203 = nI n) (hn : n + 5 ≤ 24) (hdep : dep + 4 ≤ 40) (x : Int32) : Sp 9 0 0 MX0_ask [.ref 4, .int (nI 1), .int (nI 3), .int (x), .int (nI dep)] (hp S) (Rt (some (.int (((((x + nb) + nI 3) * nI 2) - ((nI 1) ^^^ nb))))) (hp (trc S n [2, 10, 20, 1, 11]))) := by
  refine Sp_of (by decide +kernel) (Nat.le_of_ble_eq_true rfl) ?_
  show AW none MX0_ask 9 0 0 0 [.ref 4, .int (nI 1), .int (nI 3), .int (x), .int (nI dep), .null, .null, .null] [] (hp S) _
  refine k_iload eX0_ask_0 rfl ?_
  refine k_bipush (v := nI 40) eX0_ask_2 (by decide) ?_
  refine k_icmp_leN 9 eX0_ask_4 (by decide) (by omega) (by omega) (fun c_4 => ?_) (fun c_4 => by exfalso; omega)
  refine k_iload_n eX0_ask_9 rfl ?_
  refine k_istore (L2 := [_, _, _, _, _, _, _, _]) eX0_ask_10 (Nat.le_of_ble_eq_true rfl) rfl ?_
  refine k_iconst (v := nI 0) eX0_ask_12 (by decide) ?_
  refine k_istore (L2 := [_, _, _, _, _, _, _, _]) eX0_ask_13 (Nat.le_of_ble_eq_true rfl) rfl ?_
  refine k_iload eX0_ask_15 rfl ?_
  refine k_bipush (v := nI 8) eX0_ask_17 (by decide) ?_
  refine k_icmp_gtN 88 eX0_ask_19 (by decide) (by omega) (by omega) (fun c_19 => by exfalso; omega) (fun c_19 => ?_)
  refine k_iload eX0_ask_22 rfl ?_
  refine k_if_ltN 88 eX0_ask_24 (by decide) (by omega) ?_
  refine k_iload eX0_ask_27 rfl ?_
  refine k_iload_n eX0_ask_29 rfl ?_
  refine cS1 (M' := MX0_bodyOf) eX0_ask_30 mX0_64 wX0_bodyOf sX0_bodyOf rfl (pX0_bodyOf (S := S) (k := 1) (s := 3) (by decide) (by decide)) (by decide) (Nat.le_of_ble_eq_true rfl) ?_
  refine k_topi (nI 0) (by decide) ?_
  refine k_istore (L2 := [_, _, _, _, _, _, _, _]) eX0_ask_33 (Nat.le_of_ble_eq_true rfl) rfl ?_
  refine k_iload eX0_ask_35 rfl ?_
  refine k_if_eqN 75 eX0_ask_37 (by decide) (by omega) (fun c_37 => ?_) (fun c_37 => by exfalso; omega)
  refine k_iload eX0_ask_75 rfl ?_
  refine cS1 (M' := MX0_above) eX0_ask_77 mX0_33 wX0_above sX0_above rfl (pX0_above (S := S) (k := 1) (by decide)) (by decide) (Nat.le_of_ble_eq_true rfl) ?_
  refine k_topi (nI 0) (by decide) ?_
  refine k_istore (L2 := [_, _, _, _, _, _, _, _]) eX0_ask_80 (Nat.le_of_ble_eq_true rfl) rfl ?_
  refine k_iincN (g := 1) (a := 0) (L2 := [_, _, _, _, _, _, _, _]) eX0_ask_82 (Nat.le_of_ble_eq_true rfl) rfl rfl ?_
  refine k_goto 15 eX0_ask_85 (by decide) ?_
  refine k_iload eX0_ask_15 rfl ?_
  refine k_bipush (v := nI 8) eX0_ask_17 (by decide) ?_
  refine k_icmp_gtN 88 eX0_ask_19 (by decide) (by omega) (by omega) (fun c_19 => by exfalso; omega) (fun c_19 => ?_)
  refine k_iload eX0_ask_22 rfl ?_
  refine k_if_ltN 88 eX0_ask_24 (by decide) (by omega) ?_
  refine k_iload eX0_ask_27 rfl ?_
  refine k_iload_n eX0_ask_29 rfl ?_
  refine cS1 (M' := MX0_bodyOf) eX0_ask_30 mX0_64 wX0_bodyOf sX0_bodyOf rfl (pX0_bodyOf (S := S) (k := 0) (s := 3) (by decide) (by decide)) (by decide) (Nat.le_of_ble_eq_true rfl) ?_
  refine k_topi (nI 0) (by decide) ?_
  refine k_istore (L2 := [_, _, _, _, _, _, _, _]) eX0_ask_33 (Nat.le_of_ble_eq_true rfl) rfl ?_
  refine k_iload eX0_ask_35 rfl ?_
  refine k_if_eqN 75 eX0_ask_37 (by decide) (by omega) (fun c_37 => ?_) (fun c_37 => by exfalso; omega)
  refine k_iload eX0_ask_75 rfl ?_
  refine cS1 (M' := MX0_above) eX0_ask_77 mX0_33 wX0_above sX0_above rfl (pX0_above (S := S) (k := 0) (by decide)) (by decide) (Nat.le_of_ble_eq_true rfl) ?_
  refine k_topi (nI 8) (by decide) ?_
  refine k_istore (L2 := [_, _, _, _, _, _, _, _]) eX0_ask_80 (Nat.le_of_ble_eq_true rfl) rfl ?_
  refine k_iincN (g := 1) (a := 1) (L2 := [_, _, _, _, _, _, _, _]) eX0_ask_82 (Nat.le_of_ble_eq_true rfl) rfl rfl ?_
  refine k_goto 15 eX0_ask_85 (by decide) ?_
  refine k_iload eX0_ask_15 rfl ?_
  refine k_bipush (v := nI 8) eX0_ask_17 (by decide) ?_
  refine k_icmp_gtN 88 eX0_ask_19 (by decide) (by omega) (by omega) (fun c_19 => by exfalso; omega) (fun c_19 => ?_)
  refine k_iload eX0_ask_22 rfl ?_
  refine k_if_ltN 88 eX0_ask_24 (by decide) (by omega) ?_
  refine k_iload eX0_ask_27 rfl ?_
  refine k_iload_n eX0_ask_29 rfl ?_
  refine cS1 (M' := MX0_bodyOf) eX0_ask_30 mX0_64 wX0_bodyOf sX0_bodyOf rfl (pX0_bodyOf (S := S) (k := 8) (s := 3) (by decide) (by decide)) (by decide) (Nat.le_of_ble_eq_true rfl) ?_
  refine k_topi (nI 2) (by decide) ?_
  refine k_istore (L2 := [_, _, _, _, _, _, _, _]) eX0_ask_33 (Nat.le_of_ble_eq_true rfl) rfl ?_
  refine k_iload eX0_ask_35 rfl ?_
  refine k_if_eqN 75 eX0_ask_37 (by decide) (by omega) (fun c_37 => by exfalso; omega) (fun c_37 => ?_)
  refine k_aload_n eX0_ask_40 rfl ?_
  refine GX0_19 eX0_ask_41 rfl ?_
  refine k_aload_n eX0_ask_44 rfl ?_
  refine GX0_22 eX0_ask_45 rfl ?_
  refine k_topi (nI n) hran ?_
  refine k_iload eX0_ask_48 rfl ?_
  refine cN0 (M' := MX11_write) eX0_ask_50 mX0_25 wX11_write sX11_write rfl (pX11_writeN (j := n) (v := nI 2) (ar6 _) (by omega) (by decide) (as6 _ _)) (by decide) (Nat.le_of_ble_eq_true rfl) ?_
  refine k_aload_n eX0_ask_53 rfl ?_
  refine k_dup eX0_ask_54 rfl ?_
  refine GX0_22 eX0_ask_55 rfl ?_
  refine k_topi (nI n) hran ?_
  refine k_iconst (v := nI 1) eX0_ask_58 (by decide) ?_
  refine k_iaddN eX0_ask_59 ?_
  refine PX0_22 eX0_ask_60 rfl ?_
  refine k_heap (h2 := hp (trc1 S n 2)) rfl ?_
  refine k_aload_n eX0_ask_63 rfl ?_
  refine k_iload eX0_ask_64 rfl ?_
  refine k_iload_n eX0_ask_66 rfl ?_
  refine k_iload eX0_ask_67 rfl ?_
  refine k_iconst (v := nI 1) eX0_ask_69 (by decide) ?_
  refine k_iaddN eX0_ask_70 ?_
  refine cV1 (M' := MX0_run) eX0_ask_71 mX0_68 wX0_run vX0_run ⟨_, _, _, rfl, rfl, rfl⟩ rfl (pX0_run_5_2 (S := (trc1 S n 2)) (n := n + 1) (dep := (dep + 1)) (nb := nb) (t1K hK) (t1N hnb) rfl (by omega) (by omega) (x)) (by decide) (Nat.le_of_ble_eq_true rfl) ?_
  refine k_ireturn eX0_ask_74 rfl rfl ?_
  exact ⟨rfl, congrArg hp (trc_cons S n 2 [10, 20, 1, 11]).symm⟩
set_option maxHeartbeats 400000 in
theorem pX0_run_5_60 {S : k_S} {n dep : Nat} {nb : Int32} (hK : S.1 205 = nI 5) (hnb : S.1 204 = nb) (hran : S.1 203 = nI n) (hn : n + 5 ≤ 24) (hdep : dep + 4 ≤ 40) (x : Int32) : Sp 10 0 0 MX0_run [.ref 4, .int (nI 60), .int (x), .int (nI dep)] (hp S) (Rt (some (.int ((((((x + nb) + nI 3) * nI 2) - ((nI 1) ^^^ nb)) ^^^ nI 5)))) (hp (trc S n [2, 10, 20, 1, 11]))) := by
  refine Sp_of (by decide +kernel) (Nat.le_of_ble_eq_true rfl) ?_
  show AW none MX0_run 10 0 0 0 [.ref 4, .int (nI 60), .int (x), .int (nI dep)] [] (hp S) _
  refine k_iload_n eX0_run_0 rfl ?_
  refine k_look 231 eX0_run_1 (by decide) (off := 230) (by decide) (by decide) ?_
  refine k_aload_n eX0_run_231 rfl ?_
  refine k_iconst (v := nI 5) eX0_run_232 (by decide) ?_
  refine cS1 (M' := MX0_above) eX0_run_233 mX0_33 wX0_above sX0_above rfl (pX0_above (S := S) (k := 5) (by decide)) (by decide) (Nat.le_of_ble_eq_true rfl) ?_
  refine k_topi (nI 1) (by decide) ?_
  refine k_iconst (v := nI 3) eX0_run_236 (by decide) ?_
  refine k_iload_n eX0_run_237 rfl ?_
  refine k_iload_n eX0_run_238 rfl ?_
  refine cV1 (M' := MX0_ask) eX0_run_239 mX0_54 wX0_ask vX0_ask ⟨_, _, _, rfl, rfl, rfl⟩ rfl (pX0_ask_5_1_3 (S := S) (n := n) (dep := dep) (nb := nb) hK hnb hran (by omega) (by omega) (x)) (by decide) (Nat.le_of_ble_eq_true rfl) ?_
  refine k_iconst (v := nI 5) eX0_run_242 (by decide) ?_
  refine k_ixor eX0_run_243 ?_
  refine k_ireturn eX0_run_244 rfl rfl ?_
  exact ⟨rfl, rfl⟩
set_option maxHeartbeats 400000 in
theorem pX0_ask_5_5_3 {S : k_S} {n dep : Nat} {nb : Int32} (hK : S.1 205 = nI 5) (hnb : S.1 204 = nb) (hran : S.1 203 = nI n) (hn : n + 6 ≤ 24) (hdep : dep + 5 ≤ 40) (x : Int32) : Sp 11 0 0 MX0_ask [.ref 4, .int (nI 5), .int (nI 3), .int (x), .int (nI dep)] (hp S) (Rt (some (.int ((((((x + nb) + nI 3) * nI 2) - ((nI 1) ^^^ nb)) ^^^ nI 5)))) (hp (trc S n [60, 2, 10, 20, 1, 11]))) := by
  refine Sp_of (by decide +kernel) (Nat.le_of_ble_eq_true rfl) ?_
  show AW none MX0_ask 11 0 0 0 [.ref 4, .int (nI 5), .int (nI 3), .int (x), .int (nI dep), .null, .null, .null] [] (hp S) _
  refine k_iload eX0_ask_0 rfl ?_
  refine k_bipush (v := nI 40) eX0_ask_2 (by decide) ?_
  refine k_icmp_leN 9 eX0_ask_4 (by decide) (by omega) (by omega) (fun c_4 => ?_) (fun c_4 => by exfalso; omega)
  refine k_iload_n eX0_ask_9 rfl ?_
  refine k_istore (L2 := [_, _, _, _, _, _, _, _]) eX0_ask_10 (Nat.le_of_ble_eq_true rfl) rfl ?_
  refine k_iconst (v := nI 0) eX0_ask_12 (by decide) ?_
  refine k_istore (L2 := [_, _, _, _, _, _, _, _]) eX0_ask_13 (Nat.le_of_ble_eq_true rfl) rfl ?_
  refine k_iload eX0_ask_15 rfl ?_
  refine k_bipush (v := nI 8) eX0_ask_17 (by decide) ?_
  refine k_icmp_gtN 88 eX0_ask_19 (by decide) (by omega) (by omega) (fun c_19 => by exfalso; omega) (fun c_19 => ?_)
  refine k_iload eX0_ask_22 rfl ?_
  refine k_if_ltN 88 eX0_ask_24 (by decide) (by omega) ?_
  refine k_iload eX0_ask_27 rfl ?_
  refine k_iload_n eX0_ask_29 rfl ?_
  refine cS1 (M' := MX0_bodyOf) eX0_ask_30 mX0_64 wX0_bodyOf sX0_bodyOf rfl (pX0_bodyOf (S := S) (k := 5) (s := 3) (by decide) (by decide)) (by decide) (Nat.le_of_ble_eq_true rfl) ?_
  refine k_topi (nI 60) (by decide) ?_
  refine k_istore (L2 := [_, _, _, _, _, _, _, _]) eX0_ask_33 (Nat.le_of_ble_eq_true rfl) rfl ?_
  refine k_iload eX0_ask_35 rfl ?_
  refine k_if_eqN 75 eX0_ask_37 (by decide) (by omega) (fun c_37 => by exfalso; omega) (fun c_37 => ?_)
  refine k_aload_n eX0_ask_40 rfl ?_
  refine GX0_19 eX0_ask_41 rfl ?_
  refine k_aload_n eX0_ask_44 rfl ?_
  refine GX0_22 eX0_ask_45 rfl ?_
  refine k_topi (nI n) hran ?_
  refine k_iload eX0_ask_48 rfl ?_
  refine cN0 (M' := MX11_write) eX0_ask_50 mX0_25 wX11_write sX11_write rfl (pX11_writeN (j := n) (v := nI 60) (ar6 _) (by omega) (by decide) (as6 _ _)) (by decide) (Nat.le_of_ble_eq_true rfl) ?_
  refine k_aload_n eX0_ask_53 rfl ?_
  refine k_dup eX0_ask_54 rfl ?_
  refine GX0_22 eX0_ask_55 rfl ?_
  refine k_topi (nI n) hran ?_
  refine k_iconst (v := nI 1) eX0_ask_58 (by decide) ?_
  refine k_iaddN eX0_ask_59 ?_
  refine PX0_22 eX0_ask_60 rfl ?_
  refine k_heap (h2 := hp (trc1 S n 60)) rfl ?_
  refine k_aload_n eX0_ask_63 rfl ?_
  refine k_iload eX0_ask_64 rfl ?_
  refine k_iload_n eX0_ask_66 rfl ?_
  refine k_iload eX0_ask_67 rfl ?_
  refine k_iconst (v := nI 1) eX0_ask_69 (by decide) ?_
  refine k_iaddN eX0_ask_70 ?_
  refine cV1 (M' := MX0_run) eX0_ask_71 mX0_68 wX0_run vX0_run ⟨_, _, _, rfl, rfl, rfl⟩ rfl (pX0_run_5_60 (S := (trc1 S n 60)) (n := n + 1) (dep := (dep + 1)) (nb := nb) (t1K hK) (t1N hnb) rfl (by omega) (by omega) (x)) (by decide) (Nat.le_of_ble_eq_true rfl) ?_
  refine k_ireturn eX0_ask_74 rfl rfl ?_
  exact ⟨rfl, congrArg hp (trc_cons S n 60 [2, 10, 20, 1, 11]).symm⟩
set_option maxHeartbeats 400000 in
theorem pX0_run_6_1 {S : k_S} {n dep : Nat} {nb : Int32} (hK : S.1 205 = nI 6) (hnb : S.1 204 = nb) (hran : S.1 203 = nI n) (hn : n + 0 ≤ 24) (hdep : dep + 0 ≤ 40) (x : Int32) : Sp 0 0 0 MX0_run [.ref 4, .int (nI 1), .int (x), .int (nI dep)] (hp S) (Rt (some (.int ((x + nb)))) (hp S)) := by
  refine Sp_of (by decide +kernel) (Nat.le_of_ble_eq_true rfl) ?_
  show AW none MX0_run 0 0 0 0 [.ref 4, .int (nI 1), .int (x), .int (nI dep)] [] (hp S) _
  refine k_iload_n eX0_run_0 rfl ?_
  refine k_look 116 eX0_run_1 (by decide) (off := 115) (by decide) (by decide) ?_
  refine k_iload_n eX0_run_116 rfl ?_
  refine k_aload_n eX0_run_117 rfl ?_
  refine GX0_45 eX0_run_118 rfl ?_
  refine k_topi (nb) hnb ?_
  refine k_iadd eX0_run_121 ?_
  refine k_ireturn eX0_run_122 rfl rfl ?_
  exact ⟨rfl, rfl⟩
set_option maxHeartbeats 400000 in
theorem pX0_ask_6_0_0 {S : k_S} {n dep : Nat} {nb : Int32} (hK : S.1 205 = nI 6) (hnb : S.1 204 = nb) (hran : S.1 203 = nI n) (hn : n + 1 ≤ 24) (hdep : dep + 1 ≤ 40) (x : Int32) : Sp 1 0 0 MX0_ask [.ref 4, .int (nI 0), .int (nI 0), .int (x), .int (nI dep)] (hp S) (Rt (some (.int ((x + nb)))) (hp (trc S n [1]))) := by
  refine Sp_of (by decide +kernel) (Nat.le_of_ble_eq_true rfl) ?_
  show AW none MX0_ask 1 0 0 0 [.ref 4, .int (nI 0), .int (nI 0), .int (x), .int (nI dep), .null, .null, .null] [] (hp S) _
  refine k_iload eX0_ask_0 rfl ?_
  refine k_bipush (v := nI 40) eX0_ask_2 (by decide) ?_
  refine k_icmp_leN 9 eX0_ask_4 (by decide) (by omega) (by omega) (fun c_4 => ?_) (fun c_4 => by exfalso; omega)
  refine k_iload_n eX0_ask_9 rfl ?_
  refine k_istore (L2 := [_, _, _, _, _, _, _, _]) eX0_ask_10 (Nat.le_of_ble_eq_true rfl) rfl ?_
  refine k_iconst (v := nI 0) eX0_ask_12 (by decide) ?_
  refine k_istore (L2 := [_, _, _, _, _, _, _, _]) eX0_ask_13 (Nat.le_of_ble_eq_true rfl) rfl ?_
  refine k_iload eX0_ask_15 rfl ?_
  refine k_bipush (v := nI 8) eX0_ask_17 (by decide) ?_
  refine k_icmp_gtN 88 eX0_ask_19 (by decide) (by omega) (by omega) (fun c_19 => by exfalso; omega) (fun c_19 => ?_)
  refine k_iload eX0_ask_22 rfl ?_
  refine k_if_ltN 88 eX0_ask_24 (by decide) (by omega) ?_
  refine k_iload eX0_ask_27 rfl ?_
  refine k_iload_n eX0_ask_29 rfl ?_
  refine cS1 (M' := MX0_bodyOf) eX0_ask_30 mX0_64 wX0_bodyOf sX0_bodyOf rfl (pX0_bodyOf (S := S) (k := 0) (s := 0) (by decide) (by decide)) (by decide) (Nat.le_of_ble_eq_true rfl) ?_
  refine k_topi (nI 0) (by decide) ?_
  refine k_istore (L2 := [_, _, _, _, _, _, _, _]) eX0_ask_33 (Nat.le_of_ble_eq_true rfl) rfl ?_
  refine k_iload eX0_ask_35 rfl ?_
  refine k_if_eqN 75 eX0_ask_37 (by decide) (by omega) (fun c_37 => ?_) (fun c_37 => by exfalso; omega)
  refine k_iload eX0_ask_75 rfl ?_
  refine cS1 (M' := MX0_above) eX0_ask_77 mX0_33 wX0_above sX0_above rfl (pX0_above (S := S) (k := 0) (by decide)) (by decide) (Nat.le_of_ble_eq_true rfl) ?_
  refine k_topi (nI 8) (by decide) ?_
  refine k_istore (L2 := [_, _, _, _, _, _, _, _]) eX0_ask_80 (Nat.le_of_ble_eq_true rfl) rfl ?_
  refine k_iincN (g := 1) (a := 0) (L2 := [_, _, _, _, _, _, _, _]) eX0_ask_82 (Nat.le_of_ble_eq_true rfl) rfl rfl ?_
  refine k_goto 15 eX0_ask_85 (by decide) ?_
  refine k_iload eX0_ask_15 rfl ?_
  refine k_bipush (v := nI 8) eX0_ask_17 (by decide) ?_
  refine k_icmp_gtN 88 eX0_ask_19 (by decide) (by omega) (by omega) (fun c_19 => by exfalso; omega) (fun c_19 => ?_)
  refine k_iload eX0_ask_22 rfl ?_
  refine k_if_ltN 88 eX0_ask_24 (by decide) (by omega) ?_
  refine k_iload eX0_ask_27 rfl ?_
  refine k_iload_n eX0_ask_29 rfl ?_
  refine cS1 (M' := MX0_bodyOf) eX0_ask_30 mX0_64 wX0_bodyOf sX0_bodyOf rfl (pX0_bodyOf (S := S) (k := 8) (s := 0) (by decide) (by decide)) (by decide) (Nat.le_of_ble_eq_true rfl) ?_
  refine k_topi (nI 1) (by decide) ?_
  refine k_istore (L2 := [_, _, _, _, _, _, _, _]) eX0_ask_33 (Nat.le_of_ble_eq_true rfl) rfl ?_
  refine k_iload eX0_ask_35 rfl ?_
  refine k_if_eqN 75 eX0_ask_37 (by decide) (by omega) (fun c_37 => by exfalso; omega) (fun c_37 => ?_)
  refine k_aload_n eX0_ask_40 rfl ?_
  refine GX0_19 eX0_ask_41 rfl ?_
  refine k_aload_n eX0_ask_44 rfl ?_
  refine GX0_22 eX0_ask_45 rfl ?_
  refine k_topi (nI n) hran ?_
  refine k_iload eX0_ask_48 rfl ?_
  refine cN0 (M' := MX11_write) eX0_ask_50 mX0_25 wX11_write sX11_write rfl (pX11_writeN (j := n) (v := nI 1) (ar6 _) (by omega) (by decide) (as6 _ _)) (by decide) (Nat.le_of_ble_eq_true rfl) ?_
  refine k_aload_n eX0_ask_53 rfl ?_
  refine k_dup eX0_ask_54 rfl ?_
  refine GX0_22 eX0_ask_55 rfl ?_
  refine k_topi (nI n) hran ?_
  refine k_iconst (v := nI 1) eX0_ask_58 (by decide) ?_
  refine k_iaddN eX0_ask_59 ?_
  refine PX0_22 eX0_ask_60 rfl ?_
  refine k_heap (h2 := hp (trc1 S n 1)) rfl ?_
  refine k_aload_n eX0_ask_63 rfl ?_
  refine k_iload eX0_ask_64 rfl ?_
  refine k_iload_n eX0_ask_66 rfl ?_
  refine k_iload eX0_ask_67 rfl ?_
  refine k_iconst (v := nI 1) eX0_ask_69 (by decide) ?_
  refine k_iaddN eX0_ask_70 ?_
  refine cV1 (M' := MX0_run) eX0_ask_71 mX0_68 wX0_run vX0_run ⟨_, _, _, rfl, rfl, rfl⟩ rfl (pX0_run_6_1 (S := (trc1 S n 1)) (n := n + 1) (dep := (dep + 1)) (nb := nb) (t1K hK) (t1N hnb) rfl (by omega) (by omega) (x)) (by decide) (Nat.le_of_ble_eq_true rfl) ?_
  refine k_ireturn eX0_ask_74 rfl rfl ?_
  exact ⟨rfl, rfl⟩
set_option maxHeartbeats 400000 in
theorem pX0_run_6_70 {S : k_S} {n dep : Nat} {nb : Int32} (hK : S.1 205 = nI 6) (hnb : S.1 204 = nb) (hran : S.1 203 = nI n) (hn : n + 1 ≤ 24) (hdep : dep + 1 ≤ 40) (x : Int32) : Sp 2 0 0 MX0_run [.ref 4, .int (nI 70), .int (x), .int (nI dep)] (hp S) (Rt (some (.int (((x + nb) * nI 2)))) (hp (trc S n [1]))) := by
  refine Sp_of (by decide +kernel) (Nat.le_of_ble_eq_true rfl) ?_
  show AW none MX0_run 2 0 0 0 [.ref 4, .int (nI 70), .int (x), .int (nI dep)] [] (hp S) _
  refine k_iload_n eX0_run_0 rfl ?_
  refine k_look 245 eX0_run_1 (by decide) (off := 244) (by decide) (by decide) ?_
  refine k_aload_n eX0_run_245 rfl ?_
  refine k_bipush (v := nI 6) eX0_run_246 (by decide) ?_
  refine cS1 (M' := MX0_above) eX0_run_248 mX0_33 wX0_above sX0_above rfl (pX0_above (S := S) (k := 6) (by decide)) (by decide) (Nat.le_of_ble_eq_true rfl) ?_
  refine k_topi (nI 0) (by decide) ?_
  refine k_iconst (v := nI 0) eX0_run_251 (by decide) ?_
  refine k_iload_n eX0_run_252 rfl ?_
  refine k_iload_n eX0_run_253 rfl ?_
  refine cV1 (M' := MX0_ask) eX0_run_254 mX0_54 wX0_ask vX0_ask ⟨_, _, _, rfl, rfl, rfl⟩ rfl (pX0_ask_6_0_0 (S := S) (n := n) (dep := dep) (nb := nb) hK hnb hran (by omega) (by omega) (x)) (by decide) (Nat.le_of_ble_eq_true rfl) ?_
  refine k_iconst (v := nI 2) eX0_run_257 (by decide) ?_
  refine k_imul eX0_run_258 ?_
  refine k_ireturn eX0_run_259 rfl rfl ?_
  exact ⟨rfl, rfl⟩
set_option maxHeartbeats 400000 in
theorem pX0_ask_6_6_0 {S : k_S} {n dep : Nat} {nb : Int32} (hK : S.1 205 = nI 6) (hnb : S.1 204 = nb) (hran : S.1 203 = nI n) (hn : n + 2 ≤ 24) (hdep : dep + 2 ≤ 40) (x : Int32) : Sp 3 0 0 MX0_ask [.ref 4, .int (nI 6), .int (nI 0), .int (x), .int (nI dep)] (hp S) (Rt (some (.int (((x + nb) * nI 2)))) (hp (trc S n [70, 1]))) := by
  refine Sp_of (by decide +kernel) (Nat.le_of_ble_eq_true rfl) ?_
  show AW none MX0_ask 3 0 0 0 [.ref 4, .int (nI 6), .int (nI 0), .int (x), .int (nI dep), .null, .null, .null] [] (hp S) _
  refine k_iload eX0_ask_0 rfl ?_
  refine k_bipush (v := nI 40) eX0_ask_2 (by decide) ?_
  refine k_icmp_leN 9 eX0_ask_4 (by decide) (by omega) (by omega) (fun c_4 => ?_) (fun c_4 => by exfalso; omega)
  refine k_iload_n eX0_ask_9 rfl ?_
  refine k_istore (L2 := [_, _, _, _, _, _, _, _]) eX0_ask_10 (Nat.le_of_ble_eq_true rfl) rfl ?_
  refine k_iconst (v := nI 0) eX0_ask_12 (by decide) ?_
  refine k_istore (L2 := [_, _, _, _, _, _, _, _]) eX0_ask_13 (Nat.le_of_ble_eq_true rfl) rfl ?_
  refine k_iload eX0_ask_15 rfl ?_
  refine k_bipush (v := nI 8) eX0_ask_17 (by decide) ?_
  refine k_icmp_gtN 88 eX0_ask_19 (by decide) (by omega) (by omega) (fun c_19 => by exfalso; omega) (fun c_19 => ?_)
  refine k_iload eX0_ask_22 rfl ?_
  refine k_if_ltN 88 eX0_ask_24 (by decide) (by omega) ?_
  refine k_iload eX0_ask_27 rfl ?_
  refine k_iload_n eX0_ask_29 rfl ?_
  refine cS1 (M' := MX0_bodyOf) eX0_ask_30 mX0_64 wX0_bodyOf sX0_bodyOf rfl (pX0_bodyOf (S := S) (k := 6) (s := 0) (by decide) (by decide)) (by decide) (Nat.le_of_ble_eq_true rfl) ?_
  refine k_topi (nI 70) (by decide) ?_
  refine k_istore (L2 := [_, _, _, _, _, _, _, _]) eX0_ask_33 (Nat.le_of_ble_eq_true rfl) rfl ?_
  refine k_iload eX0_ask_35 rfl ?_
  refine k_if_eqN 75 eX0_ask_37 (by decide) (by omega) (fun c_37 => by exfalso; omega) (fun c_37 => ?_)
  refine k_aload_n eX0_ask_40 rfl ?_
  refine GX0_19 eX0_ask_41 rfl ?_
  refine k_aload_n eX0_ask_44 rfl ?_
  refine GX0_22 eX0_ask_45 rfl ?_
  refine k_topi (nI n) hran ?_
  refine k_iload eX0_ask_48 rfl ?_
  refine cN0 (M' := MX11_write) eX0_ask_50 mX0_25 wX11_write sX11_write rfl (pX11_writeN (j := n) (v := nI 70) (ar6 _) (by omega) (by decide) (as6 _ _)) (by decide) (Nat.le_of_ble_eq_true rfl) ?_
  refine k_aload_n eX0_ask_53 rfl ?_
  refine k_dup eX0_ask_54 rfl ?_
  refine GX0_22 eX0_ask_55 rfl ?_
  refine k_topi (nI n) hran ?_
  refine k_iconst (v := nI 1) eX0_ask_58 (by decide) ?_
  refine k_iaddN eX0_ask_59 ?_
  refine PX0_22 eX0_ask_60 rfl ?_
  refine k_heap (h2 := hp (trc1 S n 70)) rfl ?_
  refine k_aload_n eX0_ask_63 rfl ?_
  refine k_iload eX0_ask_64 rfl ?_
  refine k_iload_n eX0_ask_66 rfl ?_
  refine k_iload eX0_ask_67 rfl ?_
  refine k_iconst (v := nI 1) eX0_ask_69 (by decide) ?_
  refine k_iaddN eX0_ask_70 ?_
  refine cV1 (M' := MX0_run) eX0_ask_71 mX0_68 wX0_run vX0_run ⟨_, _, _, rfl, rfl, rfl⟩ rfl (pX0_run_6_70 (S := (trc1 S n 70)) (n := n + 1) (dep := (dep + 1)) (nb := nb) (t1K hK) (t1N hnb) rfl (by omega) (by omega) (x)) (by decide) (Nat.le_of_ble_eq_true rfl) ?_
  refine k_ireturn eX0_ask_74 rfl rfl ?_
  exact ⟨rfl, congrArg hp (trc_cons S n 70 [1]).symm⟩
set_option maxHeartbeats 400000 in
theorem pX0_own_6_0 {S : k_S} {n dep : Nat} {nb : Int32} (hK : S.1 205 = nI 6) (hnb : S.1 204 = nb) (hran : S.1 203 = nI n) (hn : n + 2 ≤ 24) (hdep : dep + 2 ≤ 40) (x : Int32) : Sp 4 0 0 MX0_own [.ref 4, .int (nI 0), .int (x), .int (nI dep)] (hp S) (Rt (some (.int (((x + nb) * nI 2)))) (hp (trc S n [70, 1]))) := by
  refine Sp_of (by decide +kernel) (Nat.le_of_ble_eq_true rfl) ?_
  show AW none MX0_own 4 0 0 0 [.ref 4, .int (nI 0), .int (x), .int (nI dep)] [] (hp S) _
  refine k_aload_n eX0_own_0 rfl ?_
  refine k_aload_n eX0_own_1 rfl ?_
  refine GX0_51 eX0_own_2 rfl ?_
  refine k_topi (nI 6) hK ?_
  refine k_iload_n eX0_own_5 rfl ?_
  refine k_iload_n eX0_own_6 rfl ?_
  refine k_iload_n eX0_own_7 rfl ?_
  refine cV1 (M' := MX0_ask) eX0_own_8 mX0_54 wX0_ask vX0_ask ⟨_, _, _, rfl, rfl, rfl⟩ rfl (pX0_ask_6_6_0 (S := S) (n := n) (dep := dep) (nb := nb) hK hnb hran (by omega) (by omega) (x)) (by decide) (Nat.le_of_ble_eq_true rfl) ?_
  refine k_ireturn eX0_own_11 rfl rfl ?_
  exact ⟨rfl, rfl⟩
set_option maxHeartbeats 400000 in
theorem pX0_run_6_10 {S : k_S} {n dep : Nat} {nb : Int32} (hK : S.1 205 = nI 6) (hnb : S.1 204 = nb) (hran : S.1 203 = nI n) (hn : n + 2 ≤ 24) (hdep : dep + 2 ≤ 40) (x : Int32) : Sp 5 0 0 MX0_run [.ref 4, .int (nI 10), .int (x), .int (nI dep)] (hp S) (Rt (some (.int ((((x + nb) * nI 2) * nI 2)))) (hp (trc S n [70, 1]))) := by
  refine Sp_of (by decide +kernel) (Nat.le_of_ble_eq_true rfl) ?_
  show AW none MX0_run 5 0 0 0 [.ref 4, .int (nI 10), .int (x), .int (nI dep)] [] (hp S) _
  refine k_iload_n eX0_run_0 rfl ?_
  refine k_look 139 eX0_run_1 (by decide) (off := 138) (by decide) (by decide) ?_
  refine k_aload_n eX0_run_139 rfl ?_
  refine k_iconst (v := nI 0) eX0_run_140 (by decide) ?_
  refine k_iload_n eX0_run_141 rfl ?_
  refine k_iload_n eX0_run_142 rfl ?_
  refine cV1 (M' := MX0_own) eX0_run_143 mX0_72 wX0_own vX0_own ⟨_, _, _, rfl, rfl, rfl⟩ rfl (pX0_own_6_0 (S := S) (n := n) (dep := dep) (nb := nb) hK hnb hran (by omega) (by omega) (x)) (by decide) (Nat.le_of_ble_eq_true rfl) ?_
  refine k_iconst (v := nI 2) eX0_run_146 (by decide) ?_
  refine k_imul eX0_run_147 ?_
  refine k_ireturn eX0_run_148 rfl rfl ?_
  exact ⟨rfl, rfl⟩
set_option maxHeartbeats 400000 in
theorem pX0_ask_6_6_1 {S : k_S} {n dep : Nat} {nb : Int32} (hK : S.1 205 = nI 6) (hnb : S.1 204 = nb) (hran : S.1 203 = nI n) (hn : n + 3 ≤ 24) (hdep : dep + 3 ≤ 40) (x : Int32) : Sp 6 0 0 MX0_ask [.ref 4, .int (nI 6), .int (nI 1), .int (x), .int (nI dep)] (hp S) (Rt (some (.int ((((x + nb) * nI 2) * nI 2)))) (hp (trc S n [10, 70, 1]))) := by
  refine Sp_of (by decide +kernel) (Nat.le_of_ble_eq_true rfl) ?_
  show AW none MX0_ask 6 0 0 0 [.ref 4, .int (nI 6), .int (nI 1), .int (x), .int (nI dep), .null, .null, .null] [] (hp S) _
  refine k_iload eX0_ask_0 rfl ?_
  refine k_bipush (v := nI 40) eX0_ask_2 (by decide) ?_
  refine k_icmp_leN 9 eX0_ask_4 (by decide) (by omega) (by omega) (fun c_4 => ?_) (fun c_4 => by exfalso; omega)
  refine k_iload_n eX0_ask_9 rfl ?_
  refine k_istore (L2 := [_, _, _, _, _, _, _, _]) eX0_ask_10 (Nat.le_of_ble_eq_true rfl) rfl ?_
  refine k_iconst (v := nI 0) eX0_ask_12 (by decide) ?_
  refine k_istore (L2 := [_, _, _, _, _, _, _, _]) eX0_ask_13 (Nat.le_of_ble_eq_true rfl) rfl ?_
  refine k_iload eX0_ask_15 rfl ?_
  refine k_bipush (v := nI 8) eX0_ask_17 (by decide) ?_
  refine k_icmp_gtN 88 eX0_ask_19 (by decide) (by omega) (by omega) (fun c_19 => by exfalso; omega) (fun c_19 => ?_)
  refine k_iload eX0_ask_22 rfl ?_
  refine k_if_ltN 88 eX0_ask_24 (by decide) (by omega) ?_
  refine k_iload eX0_ask_27 rfl ?_
  refine k_iload_n eX0_ask_29 rfl ?_
  refine cS1 (M' := MX0_bodyOf) eX0_ask_30 mX0_64 wX0_bodyOf sX0_bodyOf rfl (pX0_bodyOf (S := S) (k := 6) (s := 1) (by decide) (by decide)) (by decide) (Nat.le_of_ble_eq_true rfl) ?_
  refine k_topi (nI 0) (by decide) ?_
  refine k_istore (L2 := [_, _, _, _, _, _, _, _]) eX0_ask_33 (Nat.le_of_ble_eq_true rfl) rfl ?_
  refine k_iload eX0_ask_35 rfl ?_
  refine k_if_eqN 75 eX0_ask_37 (by decide) (by omega) (fun c_37 => ?_) (fun c_37 => by exfalso; omega)
  refine k_iload eX0_ask_75 rfl ?_
  refine cS1 (M' := MX0_above) eX0_ask_77 mX0_33 wX0_above sX0_above rfl (pX0_above (S := S) (k := 6) (by decide)) (by decide) (Nat.le_of_ble_eq_true rfl) ?_
  refine k_topi (nI 0) (by decide) ?_
  refine k_istore (L2 := [_, _, _, _, _, _, _, _]) eX0_ask_80 (Nat.le_of_ble_eq_true rfl) rfl ?_
  refine k_iincN (g := 1) (a := 0) (L2 := [_, _, _, _, _, _, _, _]) eX0_ask_82 (Nat.le_of_ble_eq_true rfl) rfl rfl ?_
  refine k_goto 15 eX0_ask_85 (by decide) ?_
  refine k_iload eX0_ask_15 rfl ?_
  refine k_bipush (v := nI 8) eX0_ask_17 (by decide) ?_
  refine k_icmp_gtN 88 eX0_ask_19 (by decide) (by omega) (by omega) (fun c_19 => by exfalso; omega) (fun c_19 => ?_)
  refine k_iload eX0_ask_22 rfl ?_
  refine k_if_ltN 88 eX0_ask_24 (by decide) (by omega) ?_
  refine k_iload eX0_ask_27 rfl ?_
  refine k_iload_n eX0_ask_29 rfl ?_
  refine cS1 (M' := MX0_bodyOf) eX0_ask_30 mX0_64 wX0_bodyOf sX0_bodyOf rfl (pX0_bodyOf (S := S) (k := 0) (s := 1) (by decide) (by decide)) (by decide) (Nat.le_of_ble_eq_true rfl) ?_
  refine k_topi (nI 10) (by decide) ?_
  refine k_istore (L2 := [_, _, _, _, _, _, _, _]) eX0_ask_33 (Nat.le_of_ble_eq_true rfl) rfl ?_
  refine k_iload eX0_ask_35 rfl ?_
  refine k_if_eqN 75 eX0_ask_37 (by decide) (by omega) (fun c_37 => by exfalso; omega) (fun c_37 => ?_)
  refine k_aload_n eX0_ask_40 rfl ?_
  refine GX0_19 eX0_ask_41 rfl ?_
  refine k_aload_n eX0_ask_44 rfl ?_
  refine GX0_22 eX0_ask_45 rfl ?_
  refine k_topi (nI n) hran ?_
  refine k_iload eX0_ask_48 rfl ?_
  refine cN0 (M' := MX11_write) eX0_ask_50 mX0_25 wX11_write sX11_write rfl (pX11_writeN (j := n) (v := nI 10) (ar6 _) (by omega) (by decide) (as6 _ _)) (by decide) (Nat.le_of_ble_eq_true rfl) ?_
  refine k_aload_n eX0_ask_53 rfl ?_
  refine k_dup eX0_ask_54 rfl ?_
  refine GX0_22 eX0_ask_55 rfl ?_
  refine k_topi (nI n) hran ?_
  refine k_iconst (v := nI 1) eX0_ask_58 (by decide) ?_
  refine k_iaddN eX0_ask_59 ?_
  refine PX0_22 eX0_ask_60 rfl ?_
  refine k_heap (h2 := hp (trc1 S n 10)) rfl ?_
  refine k_aload_n eX0_ask_63 rfl ?_
  refine k_iload eX0_ask_64 rfl ?_
  refine k_iload_n eX0_ask_66 rfl ?_
  refine k_iload eX0_ask_67 rfl ?_
  refine k_iconst (v := nI 1) eX0_ask_69 (by decide) ?_
  refine k_iaddN eX0_ask_70 ?_
  refine cV1 (M' := MX0_run) eX0_ask_71 mX0_68 wX0_run vX0_run ⟨_, _, _, rfl, rfl, rfl⟩ rfl (pX0_run_6_10 (S := (trc1 S n 10)) (n := n + 1) (dep := (dep + 1)) (nb := nb) (t1K hK) (t1N hnb) rfl (by omega) (by omega) (x)) (by decide) (Nat.le_of_ble_eq_true rfl) ?_
  refine k_ireturn eX0_ask_74 rfl rfl ?_
  exact ⟨rfl, congrArg hp (trc_cons S n 10 [70, 1]).symm⟩
set_option maxHeartbeats 400000 in
theorem pX0_run_6_11 {S : k_S} {n dep : Nat} {nb : Int32} (hK : S.1 205 = nI 6) (hnb : S.1 204 = nb) (hran : S.1 203 = nI n) (hn : n + 0 ≤ 24) (hdep : dep + 0 ≤ 40) (x : Int32) : Sp 0 0 0 MX0_run [.ref 4, .int (nI 11), .int (x), .int (nI dep)] (hp S) (Rt (some (.int ((x ^^^ nb)))) (hp S)) := by
  refine Sp_of (by decide +kernel) (Nat.le_of_ble_eq_true rfl) ?_
  show AW none MX0_run 0 0 0 0 [.ref 4, .int (nI 11), .int (x), .int (nI dep)] [] (hp S) _
  refine k_iload_n eX0_run_0 rfl ?_
  refine k_look 149 eX0_run_1 (by decide) (off := 148) (by decide) (by decide) ?_
  refine k_iload_n eX0_run_149 rfl ?_
  refine k_aload_n eX0_run_150 rfl ?_
  refine GX0_45 eX0_run_151 rfl ?_
  refine k_topi (nb) hnb ?_
  refine k_ixor eX0_run_154 ?_
  refine k_ireturn eX0_run_155 rfl rfl ?_
  exact ⟨rfl, rfl⟩
set_option maxHeartbeats 400000 in
theorem pX0_ask_6_6_2 {S : k_S} {n dep : Nat} {nb : Int32} (hK : S.1 205 = nI 6) (hnb : S.1 204 = nb) (hran : S.1 203 = nI n) (hn : n + 1 ≤ 24) (hdep : dep + 1 ≤ 40) (x : Int32) : Sp 1 0 0 MX0_ask [.ref 4, .int (nI 6), .int (nI 2), .int (x), .int (nI dep)] (hp S) (Rt (some (.int ((x ^^^ nb)))) (hp (trc S n [11]))) := by
  refine Sp_of (by decide +kernel) (Nat.le_of_ble_eq_true rfl) ?_
  show AW none MX0_ask 1 0 0 0 [.ref 4, .int (nI 6), .int (nI 2), .int (x), .int (nI dep), .null, .null, .null] [] (hp S) _
  refine k_iload eX0_ask_0 rfl ?_
  refine k_bipush (v := nI 40) eX0_ask_2 (by decide) ?_
  refine k_icmp_leN 9 eX0_ask_4 (by decide) (by omega) (by omega) (fun c_4 => ?_) (fun c_4 => by exfalso; omega)
  refine k_iload_n eX0_ask_9 rfl ?_
  refine k_istore (L2 := [_, _, _, _, _, _, _, _]) eX0_ask_10 (Nat.le_of_ble_eq_true rfl) rfl ?_
  refine k_iconst (v := nI 0) eX0_ask_12 (by decide) ?_
  refine k_istore (L2 := [_, _, _, _, _, _, _, _]) eX0_ask_13 (Nat.le_of_ble_eq_true rfl) rfl ?_
  refine k_iload eX0_ask_15 rfl ?_
  refine k_bipush (v := nI 8) eX0_ask_17 (by decide) ?_
  refine k_icmp_gtN 88 eX0_ask_19 (by decide) (by omega) (by omega) (fun c_19 => by exfalso; omega) (fun c_19 => ?_)
  refine k_iload eX0_ask_22 rfl ?_
  refine k_if_ltN 88 eX0_ask_24 (by decide) (by omega) ?_
  refine k_iload eX0_ask_27 rfl ?_
  refine k_iload_n eX0_ask_29 rfl ?_
  refine cS1 (M' := MX0_bodyOf) eX0_ask_30 mX0_64 wX0_bodyOf sX0_bodyOf rfl (pX0_bodyOf (S := S) (k := 6) (s := 2) (by decide) (by decide)) (by decide) (Nat.le_of_ble_eq_true rfl) ?_
  refine k_topi (nI 0) (by decide) ?_
  refine k_istore (L2 := [_, _, _, _, _, _, _, _]) eX0_ask_33 (Nat.le_of_ble_eq_true rfl) rfl ?_
  refine k_iload eX0_ask_35 rfl ?_
  refine k_if_eqN 75 eX0_ask_37 (by decide) (by omega) (fun c_37 => ?_) (fun c_37 => by exfalso; omega)
  refine k_iload eX0_ask_75 rfl ?_
  refine cS1 (M' := MX0_above) eX0_ask_77 mX0_33 wX0_above sX0_above rfl (pX0_above (S := S) (k := 6) (by decide)) (by decide) (Nat.le_of_ble_eq_true rfl) ?_
  refine k_topi (nI 0) (by decide) ?_
  refine k_istore (L2 := [_, _, _, _, _, _, _, _]) eX0_ask_80 (Nat.le_of_ble_eq_true rfl) rfl ?_
  refine k_iincN (g := 1) (a := 0) (L2 := [_, _, _, _, _, _, _, _]) eX0_ask_82 (Nat.le_of_ble_eq_true rfl) rfl rfl ?_
  refine k_goto 15 eX0_ask_85 (by decide) ?_
  refine k_iload eX0_ask_15 rfl ?_
  refine k_bipush (v := nI 8) eX0_ask_17 (by decide) ?_
  refine k_icmp_gtN 88 eX0_ask_19 (by decide) (by omega) (by omega) (fun c_19 => by exfalso; omega) (fun c_19 => ?_)
  refine k_iload eX0_ask_22 rfl ?_
  refine k_if_ltN 88 eX0_ask_24 (by decide) (by omega) ?_
  refine k_iload eX0_ask_27 rfl ?_
  refine k_iload_n eX0_ask_29 rfl ?_
  refine cS1 (M' := MX0_bodyOf) eX0_ask_30 mX0_64 wX0_bodyOf sX0_bodyOf rfl (pX0_bodyOf (S := S) (k := 0) (s := 2) (by decide) (by decide)) (by decide) (Nat.le_of_ble_eq_true rfl) ?_
  refine k_topi (nI 11) (by decide) ?_
  refine k_istore (L2 := [_, _, _, _, _, _, _, _]) eX0_ask_33 (Nat.le_of_ble_eq_true rfl) rfl ?_
  refine k_iload eX0_ask_35 rfl ?_
  refine k_if_eqN 75 eX0_ask_37 (by decide) (by omega) (fun c_37 => by exfalso; omega) (fun c_37 => ?_)
  refine k_aload_n eX0_ask_40 rfl ?_
  refine GX0_19 eX0_ask_41 rfl ?_
  refine k_aload_n eX0_ask_44 rfl ?_
  refine GX0_22 eX0_ask_45 rfl ?_
  refine k_topi (nI n) hran ?_
  refine k_iload eX0_ask_48 rfl ?_
  refine cN0 (M' := MX11_write) eX0_ask_50 mX0_25 wX11_write sX11_write rfl (pX11_writeN (j := n) (v := nI 11) (ar6 _) (by omega) (by decide) (as6 _ _)) (by decide) (Nat.le_of_ble_eq_true rfl) ?_
  refine k_aload_n eX0_ask_53 rfl ?_
  refine k_dup eX0_ask_54 rfl ?_
  refine GX0_22 eX0_ask_55 rfl ?_
  refine k_topi (nI n) hran ?_
  refine k_iconst (v := nI 1) eX0_ask_58 (by decide) ?_
  refine k_iaddN eX0_ask_59 ?_
  refine PX0_22 eX0_ask_60 rfl ?_
  refine k_heap (h2 := hp (trc1 S n 11)) rfl ?_
  refine k_aload_n eX0_ask_63 rfl ?_
  refine k_iload eX0_ask_64 rfl ?_
  refine k_iload_n eX0_ask_66 rfl ?_
  refine k_iload eX0_ask_67 rfl ?_
  refine k_iconst (v := nI 1) eX0_ask_69 (by decide) ?_
  refine k_iaddN eX0_ask_70 ?_
  refine cV1 (M' := MX0_run) eX0_ask_71 mX0_68 wX0_run vX0_run ⟨_, _, _, rfl, rfl, rfl⟩ rfl (pX0_run_6_11 (S := (trc1 S n 11)) (n := n + 1) (dep := (dep + 1)) (nb := nb) (t1K hK) (t1N hnb) rfl (by omega) (by omega) (x)) (by decide) (Nat.le_of_ble_eq_true rfl) ?_
  refine k_ireturn eX0_ask_74 rfl rfl ?_
  exact ⟨rfl, rfl⟩
set_option maxHeartbeats 400000 in
theorem pX0_own_6_1 {S : k_S} {n dep : Nat} {nb : Int32} (hK : S.1 205 = nI 6) (hnb : S.1 204 = nb) (hran : S.1 203 = nI n) (hn : n + 3 ≤ 24) (hdep : dep + 3 ≤ 40) (x : Int32) : Sp 7 0 0 MX0_own [.ref 4, .int (nI 1), .int (x), .int (nI dep)] (hp S) (Rt (some (.int ((((x + nb) * nI 2) * nI 2)))) (hp (trc S n [10, 70, 1]))) := by
  refine Sp_of (by decide +kernel) (Nat.le_of_ble_eq_true rfl) ?_
  show AW none MX0_own 7 0 0 0 [.ref 4, .int (nI 1), .int (x), .int (nI dep)] [] (hp S) _
  refine k_aload_n eX0_own_0 rfl ?_
  refine k_aload_n eX0_own_1 rfl ?_
  refine GX0_51 eX0_own_2 rfl ?_
  refine k_topi (nI 6) hK ?_
  refine k_iload_n eX0_own_5 rfl ?_
  refine k_iload_n eX0_own_6 rfl ?_
  refine k_iload_n eX0_own_7 rfl ?_
  refine cV1 (M' := MX0_ask) eX0_own_8 mX0_54 wX0_ask vX0_ask ⟨_, _, _, rfl, rfl, rfl⟩ rfl (pX0_ask_6_6_1 (S := S) (n := n) (dep := dep) (nb := nb) hK hnb hran (by omega) (by omega) (x)) (by decide) (Nat.le_of_ble_eq_true rfl) ?_
  refine k_ireturn eX0_own_11 rfl rfl ?_
  exact ⟨rfl, rfl⟩
set_option maxHeartbeats 400000 in
theorem pX0_own_6_2 {S : k_S} {n dep : Nat} {nb : Int32} (hK : S.1 205 = nI 6) (hnb : S.1 204 = nb) (hran : S.1 203 = nI n) (hn : n + 1 ≤ 24) (hdep : dep + 1 ≤ 40) (x : Int32) : Sp 2 0 0 MX0_own [.ref 4, .int (nI 2), .int (x), .int (nI dep)] (hp S) (Rt (some (.int ((x ^^^ nb)))) (hp (trc S n [11]))) := by
  refine Sp_of (by decide +kernel) (Nat.le_of_ble_eq_true rfl) ?_
  show AW none MX0_own 2 0 0 0 [.ref 4, .int (nI 2), .int (x), .int (nI dep)] [] (hp S) _
  refine k_aload_n eX0_own_0 rfl ?_
  refine k_aload_n eX0_own_1 rfl ?_
  refine GX0_51 eX0_own_2 rfl ?_
  refine k_topi (nI 6) hK ?_
  refine k_iload_n eX0_own_5 rfl ?_
  refine k_iload_n eX0_own_6 rfl ?_
  refine k_iload_n eX0_own_7 rfl ?_
  refine cV1 (M' := MX0_ask) eX0_own_8 mX0_54 wX0_ask vX0_ask ⟨_, _, _, rfl, rfl, rfl⟩ rfl (pX0_ask_6_6_2 (S := S) (n := n) (dep := dep) (nb := nb) hK hnb hran (by omega) (by omega) (x)) (by decide) (Nat.le_of_ble_eq_true rfl) ?_
  refine k_ireturn eX0_own_11 rfl rfl ?_
  exact ⟨rfl, rfl⟩
set_option maxHeartbeats 400000 in
theorem pX0_run_6_2 {S : k_S} {n dep : Nat} {nb : Int32} (hK : S.1 205 = nI 6) (hnb : S.1 204 = nb) (hran : S.1 203 = nI n) (hn : n + 4 ≤ 24) (hdep : dep + 3 ≤ 40) (x : Int32) : Sp 8 0 0 MX0_run [.ref 4, .int (nI 2), .int (x), .int (nI dep)] (hp S) (Rt (some (.int (((((x + nb) * nI 2) * nI 2) - ((nI 1) ^^^ nb))))) (hp (trc S n [10, 70, 1, 11]))) := by
  refine Sp_of (by decide +kernel) (Nat.le_of_ble_eq_true rfl) ?_
  show AW none MX0_run 8 0 0 0 [.ref 4, .int (nI 2), .int (x), .int (nI dep)] [] (hp S) _
  refine k_iload_n eX0_run_0 rfl ?_
  refine k_look 123 eX0_run_1 (by decide) (off := 122) (by decide) (by decide) ?_
  refine k_aload_n eX0_run_123 rfl ?_
  refine k_iconst (v := nI 1) eX0_run_124 (by decide) ?_
  refine k_iload_n eX0_run_125 rfl ?_
  refine k_iload_n eX0_run_126 rfl ?_
  refine cV1 (M' := MX0_own) eX0_run_127 mX0_72 wX0_own vX0_own ⟨_, _, _, rfl, rfl, rfl⟩ rfl (pX0_own_6_1 (S := S) (n := n) (dep := dep) (nb := nb) hK hnb hran (by omega) (by omega) (x)) (by decide) (Nat.le_of_ble_eq_true rfl) ?_
  refine k_aload_n eX0_run_130 rfl ?_
  refine k_iconst (v := nI 2) eX0_run_131 (by decide) ?_
  refine k_iconst (v := nI 1) eX0_run_132 (by decide) ?_
  refine k_iload_n eX0_run_133 rfl ?_
  refine cV1 (M' := MX0_own) eX0_run_134 mX0_72 wX0_own vX0_own ⟨_, _, _, rfl, rfl, rfl⟩ rfl (pX0_own_6_2 (S := (trc S (n) [10, 70, 1])) (n := n + 3) (dep := dep) (nb := nb) (tK hK) (tN hnb) (tR hran) (by omega) (by omega) (nI 1)) (by decide) (Nat.le_of_ble_eq_true rfl) ?_
  refine k_isub eX0_run_137 ?_
  refine k_ireturn eX0_run_138 rfl rfl ?_
  exact ⟨rfl, congrArg hp (trc_app [10, 70, 1] S n [11]).symm⟩
set_option maxHeartbeats 400000 in
theorem pX0_ask_6_6_3 {S : k_S} {n dep : Nat} {nb : Int32} (hK : S.1 205 = nI 6) (hnb : S.1 204 = nb) (hran : S.1 203 = nI n) (hn : n + 5 ≤ 24) (hdep : dep + 4 ≤ 40) (x : Int32) : Sp 9 0 0 MX0_ask [.ref 4, .int (nI 6), .int (nI 3), .int (x), .int (nI dep)] (hp S) (Rt (some (.int (((((x + nb) * nI 2) * nI 2) - ((nI 1) ^^^ nb))))) (hp (trc S n [2, 10, 70, 1, 11]))) := by
  refine Sp_of (by decide +kernel) (Nat.le_of_ble_eq_true rfl) ?_
  show AW none MX0_ask 9 0 0 0 [.ref 4, .int (nI 6), .int (nI 3), .int (x), .int (nI dep), .null, .null, .null] [] (hp S) _
  refine k_iload eX0_ask_0 rfl ?_
  refine k_bipush (v := nI 40) eX0_ask_2 (by decide) ?_
  refine k_icmp_leN 9 eX0_ask_4 (by decide) (by omega) (by omega) (fun c_4 => ?_) (fun c_4 => by exfalso; omega)
  refine k_iload_n eX0_ask_9 rfl ?_
  refine k_istore (L2 := [_, _, _, _, _, _, _, _]) eX0_ask_10 (Nat.le_of_ble_eq_true rfl) rfl ?_
  refine k_iconst (v := nI 0) eX0_ask_12 (by decide) ?_
  refine k_istore (L2 := [_, _, _, _, _, _, _, _]) eX0_ask_13 (Nat.le_of_ble_eq_true rfl) rfl ?_
  refine k_iload eX0_ask_15 rfl ?_
  refine k_bipush (v := nI 8) eX0_ask_17 (by decide) ?_
  refine k_icmp_gtN 88 eX0_ask_19 (by decide) (by omega) (by omega) (fun c_19 => by exfalso; omega) (fun c_19 => ?_)
  refine k_iload eX0_ask_22 rfl ?_
  refine k_if_ltN 88 eX0_ask_24 (by decide) (by omega) ?_
  refine k_iload eX0_ask_27 rfl ?_
  refine k_iload_n eX0_ask_29 rfl ?_
  refine cS1 (M' := MX0_bodyOf) eX0_ask_30 mX0_64 wX0_bodyOf sX0_bodyOf rfl (pX0_bodyOf (S := S) (k := 6) (s := 3) (by decide) (by decide)) (by decide) (Nat.le_of_ble_eq_true rfl) ?_
  refine k_topi (nI 0) (by decide) ?_
  refine k_istore (L2 := [_, _, _, _, _, _, _, _]) eX0_ask_33 (Nat.le_of_ble_eq_true rfl) rfl ?_
  refine k_iload eX0_ask_35 rfl ?_
  refine k_if_eqN 75 eX0_ask_37 (by decide) (by omega) (fun c_37 => ?_) (fun c_37 => by exfalso; omega)
  refine k_iload eX0_ask_75 rfl ?_
  refine cS1 (M' := MX0_above) eX0_ask_77 mX0_33 wX0_above sX0_above rfl (pX0_above (S := S) (k := 6) (by decide)) (by decide) (Nat.le_of_ble_eq_true rfl) ?_
  refine k_topi (nI 0) (by decide) ?_
  refine k_istore (L2 := [_, _, _, _, _, _, _, _]) eX0_ask_80 (Nat.le_of_ble_eq_true rfl) rfl ?_
  refine k_iincN (g := 1) (a := 0) (L2 := [_, _, _, _, _, _, _, _]) eX0_ask_82 (Nat.le_of_ble_eq_true rfl) rfl rfl ?_
  refine k_goto 15 eX0_ask_85 (by decide) ?_
  refine k_iload eX0_ask_15 rfl ?_
  refine k_bipush (v := nI 8) eX0_ask_17 (by decide) ?_
  refine k_icmp_gtN 88 eX0_ask_19 (by decide) (by omega) (by omega) (fun c_19 => by exfalso; omega) (fun c_19 => ?_)
  refine k_iload eX0_ask_22 rfl ?_
  refine k_if_ltN 88 eX0_ask_24 (by decide) (by omega) ?_
  refine k_iload eX0_ask_27 rfl ?_
  refine k_iload_n eX0_ask_29 rfl ?_
  refine cS1 (M' := MX0_bodyOf) eX0_ask_30 mX0_64 wX0_bodyOf sX0_bodyOf rfl (pX0_bodyOf (S := S) (k := 0) (s := 3) (by decide) (by decide)) (by decide) (Nat.le_of_ble_eq_true rfl) ?_
  refine k_topi (nI 0) (by decide) ?_
  refine k_istore (L2 := [_, _, _, _, _, _, _, _]) eX0_ask_33 (Nat.le_of_ble_eq_true rfl) rfl ?_
  refine k_iload eX0_ask_35 rfl ?_
  refine k_if_eqN 75 eX0_ask_37 (by decide) (by omega) (fun c_37 => ?_) (fun c_37 => by exfalso; omega)
  refine k_iload eX0_ask_75 rfl ?_
  refine cS1 (M' := MX0_above) eX0_ask_77 mX0_33 wX0_above sX0_above rfl (pX0_above (S := S) (k := 0) (by decide)) (by decide) (Nat.le_of_ble_eq_true rfl) ?_
  refine k_topi (nI 8) (by decide) ?_
  refine k_istore (L2 := [_, _, _, _, _, _, _, _]) eX0_ask_80 (Nat.le_of_ble_eq_true rfl) rfl ?_
  refine k_iincN (g := 1) (a := 1) (L2 := [_, _, _, _, _, _, _, _]) eX0_ask_82 (Nat.le_of_ble_eq_true rfl) rfl rfl ?_
  refine k_goto 15 eX0_ask_85 (by decide) ?_
  refine k_iload eX0_ask_15 rfl ?_
  refine k_bipush (v := nI 8) eX0_ask_17 (by decide) ?_
  refine k_icmp_gtN 88 eX0_ask_19 (by decide) (by omega) (by omega) (fun c_19 => by exfalso; omega) (fun c_19 => ?_)
  refine k_iload eX0_ask_22 rfl ?_
  refine k_if_ltN 88 eX0_ask_24 (by decide) (by omega) ?_
  refine k_iload eX0_ask_27 rfl ?_
  refine k_iload_n eX0_ask_29 rfl ?_
  refine cS1 (M' := MX0_bodyOf) eX0_ask_30 mX0_64 wX0_bodyOf sX0_bodyOf rfl (pX0_bodyOf (S := S) (k := 8) (s := 3) (by decide) (by decide)) (by decide) (Nat.le_of_ble_eq_true rfl) ?_
  refine k_topi (nI 2) (by decide) ?_
  refine k_istore (L2 := [_, _, _, _, _, _, _, _]) eX0_ask_33 (Nat.le_of_ble_eq_true rfl) rfl ?_
  refine k_iload eX0_ask_35 rfl ?_
  refine k_if_eqN 75 eX0_ask_37 (by decide) (by omega) (fun c_37 => by exfalso; omega) (fun c_37 => ?_)
  refine k_aload_n eX0_ask_40 rfl ?_
  refine GX0_19 eX0_ask_41 rfl ?_
  refine k_aload_n eX0_ask_44 rfl ?_
  refine GX0_22 eX0_ask_45 rfl ?_
  refine k_topi (nI n) hran ?_
  refine k_iload eX0_ask_48 rfl ?_
  refine cN0 (M' := MX11_write) eX0_ask_50 mX0_25 wX11_write sX11_write rfl (pX11_writeN (j := n) (v := nI 2) (ar6 _) (by omega) (by decide) (as6 _ _)) (by decide) (Nat.le_of_ble_eq_true rfl) ?_
  refine k_aload_n eX0_ask_53 rfl ?_
  refine k_dup eX0_ask_54 rfl ?_
  refine GX0_22 eX0_ask_55 rfl ?_
  refine k_topi (nI n) hran ?_
  refine k_iconst (v := nI 1) eX0_ask_58 (by decide) ?_
  refine k_iaddN eX0_ask_59 ?_
  refine PX0_22 eX0_ask_60 rfl ?_
  refine k_heap (h2 := hp (trc1 S n 2)) rfl ?_
  refine k_aload_n eX0_ask_63 rfl ?_
  refine k_iload eX0_ask_64 rfl ?_
  refine k_iload_n eX0_ask_66 rfl ?_
  refine k_iload eX0_ask_67 rfl ?_
  refine k_iconst (v := nI 1) eX0_ask_69 (by decide) ?_
  refine k_iaddN eX0_ask_70 ?_
  refine cV1 (M' := MX0_run) eX0_ask_71 mX0_68 wX0_run vX0_run ⟨_, _, _, rfl, rfl, rfl⟩ rfl (pX0_run_6_2 (S := (trc1 S n 2)) (n := n + 1) (dep := (dep + 1)) (nb := nb) (t1K hK) (t1N hnb) rfl (by omega) (by omega) (x)) (by decide) (Nat.le_of_ble_eq_true rfl) ?_
  refine k_ireturn eX0_ask_74 rfl rfl ?_
  exact ⟨rfl, congrArg hp (trc_cons S n 2 [10, 70, 1, 11]).symm⟩
set_option maxHeartbeats 400000 in
theorem pX0_run_7_1 {S : k_S} {n dep : Nat} {nb : Int32} (hK : S.1 205 = nI 7) (hnb : S.1 204 = nb) (hran : S.1 203 = nI n) (hn : n + 0 ≤ 24) (hdep : dep + 0 ≤ 40) (x : Int32) : Sp 0 0 0 MX0_run [.ref 4, .int (nI 1), .int (x), .int (nI dep)] (hp S) (Rt (some (.int ((x + nb)))) (hp S)) := by
  refine Sp_of (by decide +kernel) (Nat.le_of_ble_eq_true rfl) ?_
  show AW none MX0_run 0 0 0 0 [.ref 4, .int (nI 1), .int (x), .int (nI dep)] [] (hp S) _
  refine k_iload_n eX0_run_0 rfl ?_
  refine k_look 116 eX0_run_1 (by decide) (off := 115) (by decide) (by decide) ?_
  refine k_iload_n eX0_run_116 rfl ?_
  refine k_aload_n eX0_run_117 rfl ?_
  refine GX0_45 eX0_run_118 rfl ?_
  refine k_topi (nb) hnb ?_
  refine k_iadd eX0_run_121 ?_
  refine k_ireturn eX0_run_122 rfl rfl ?_
  exact ⟨rfl, rfl⟩
set_option maxHeartbeats 400000 in
theorem pX0_ask_7_2_0 {S : k_S} {n dep : Nat} {nb : Int32} (hK : S.1 205 = nI 7) (hnb : S.1 204 = nb) (hran : S.1 203 = nI n) (hn : n + 1 ≤ 24) (hdep : dep + 1 ≤ 40) (x : Int32) : Sp 1 0 0 MX0_ask [.ref 4, .int (nI 2), .int (nI 0), .int (x), .int (nI dep)] (hp S) (Rt (some (.int ((x + nb)))) (hp (trc S n [1]))) := by
  refine Sp_of (by decide +kernel) (Nat.le_of_ble_eq_true rfl) ?_
  show AW none MX0_ask 1 0 0 0 [.ref 4, .int (nI 2), .int (nI 0), .int (x), .int (nI dep), .null, .null, .null] [] (hp S) _
  refine k_iload eX0_ask_0 rfl ?_
  refine k_bipush (v := nI 40) eX0_ask_2 (by decide) ?_
  refine k_icmp_leN 9 eX0_ask_4 (by decide) (by omega) (by omega) (fun c_4 => ?_) (fun c_4 => by exfalso; omega)
  refine k_iload_n eX0_ask_9 rfl ?_
  refine k_istore (L2 := [_, _, _, _, _, _, _, _]) eX0_ask_10 (Nat.le_of_ble_eq_true rfl) rfl ?_
  refine k_iconst (v := nI 0) eX0_ask_12 (by decide) ?_
  refine k_istore (L2 := [_, _, _, _, _, _, _, _]) eX0_ask_13 (Nat.le_of_ble_eq_true rfl) rfl ?_
  refine k_iload eX0_ask_15 rfl ?_
  refine k_bipush (v := nI 8) eX0_ask_17 (by decide) ?_
  refine k_icmp_gtN 88 eX0_ask_19 (by decide) (by omega) (by omega) (fun c_19 => by exfalso; omega) (fun c_19 => ?_)
  refine k_iload eX0_ask_22 rfl ?_
  refine k_if_ltN 88 eX0_ask_24 (by decide) (by omega) ?_
  refine k_iload eX0_ask_27 rfl ?_
  refine k_iload_n eX0_ask_29 rfl ?_
  refine cS1 (M' := MX0_bodyOf) eX0_ask_30 mX0_64 wX0_bodyOf sX0_bodyOf rfl (pX0_bodyOf (S := S) (k := 2) (s := 0) (by decide) (by decide)) (by decide) (Nat.le_of_ble_eq_true rfl) ?_
  refine k_topi (nI 0) (by decide) ?_
  refine k_istore (L2 := [_, _, _, _, _, _, _, _]) eX0_ask_33 (Nat.le_of_ble_eq_true rfl) rfl ?_
  refine k_iload eX0_ask_35 rfl ?_
  refine k_if_eqN 75 eX0_ask_37 (by decide) (by omega) (fun c_37 => ?_) (fun c_37 => by exfalso; omega)
  refine k_iload eX0_ask_75 rfl ?_
  refine cS1 (M' := MX0_above) eX0_ask_77 mX0_33 wX0_above sX0_above rfl (pX0_above (S := S) (k := 2) (by decide)) (by decide) (Nat.le_of_ble_eq_true rfl) ?_
  refine k_topi (nI 0) (by decide) ?_
  refine k_istore (L2 := [_, _, _, _, _, _, _, _]) eX0_ask_80 (Nat.le_of_ble_eq_true rfl) rfl ?_
  refine k_iincN (g := 1) (a := 0) (L2 := [_, _, _, _, _, _, _, _]) eX0_ask_82 (Nat.le_of_ble_eq_true rfl) rfl rfl ?_
  refine k_goto 15 eX0_ask_85 (by decide) ?_
  refine k_iload eX0_ask_15 rfl ?_
  refine k_bipush (v := nI 8) eX0_ask_17 (by decide) ?_
  refine k_icmp_gtN 88 eX0_ask_19 (by decide) (by omega) (by omega) (fun c_19 => by exfalso; omega) (fun c_19 => ?_)
  refine k_iload eX0_ask_22 rfl ?_
  refine k_if_ltN 88 eX0_ask_24 (by decide) (by omega) ?_
  refine k_iload eX0_ask_27 rfl ?_
  refine k_iload_n eX0_ask_29 rfl ?_
  refine cS1 (M' := MX0_bodyOf) eX0_ask_30 mX0_64 wX0_bodyOf sX0_bodyOf rfl (pX0_bodyOf (S := S) (k := 0) (s := 0) (by decide) (by decide)) (by decide) (Nat.le_of_ble_eq_true rfl) ?_
  refine k_topi (nI 0) (by decide) ?_
  refine k_istore (L2 := [_, _, _, _, _, _, _, _]) eX0_ask_33 (Nat.le_of_ble_eq_true rfl) rfl ?_
  refine k_iload eX0_ask_35 rfl ?_
  refine k_if_eqN 75 eX0_ask_37 (by decide) (by omega) (fun c_37 => ?_) (fun c_37 => by exfalso; omega)
  refine k_iload eX0_ask_75 rfl ?_
  refine cS1 (M' := MX0_above) eX0_ask_77 mX0_33 wX0_above sX0_above rfl (pX0_above (S := S) (k := 0) (by decide)) (by decide) (Nat.le_of_ble_eq_true rfl) ?_
  refine k_topi (nI 8) (by decide) ?_
  refine k_istore (L2 := [_, _, _, _, _, _, _, _]) eX0_ask_80 (Nat.le_of_ble_eq_true rfl) rfl ?_
  refine k_iincN (g := 1) (a := 1) (L2 := [_, _, _, _, _, _, _, _]) eX0_ask_82 (Nat.le_of_ble_eq_true rfl) rfl rfl ?_
  refine k_goto 15 eX0_ask_85 (by decide) ?_
  refine k_iload eX0_ask_15 rfl ?_
  refine k_bipush (v := nI 8) eX0_ask_17 (by decide) ?_
  refine k_icmp_gtN 88 eX0_ask_19 (by decide) (by omega) (by omega) (fun c_19 => by exfalso; omega) (fun c_19 => ?_)
  refine k_iload eX0_ask_22 rfl ?_
  refine k_if_ltN 88 eX0_ask_24 (by decide) (by omega) ?_
  refine k_iload eX0_ask_27 rfl ?_
  refine k_iload_n eX0_ask_29 rfl ?_
  refine cS1 (M' := MX0_bodyOf) eX0_ask_30 mX0_64 wX0_bodyOf sX0_bodyOf rfl (pX0_bodyOf (S := S) (k := 8) (s := 0) (by decide) (by decide)) (by decide) (Nat.le_of_ble_eq_true rfl) ?_
  refine k_topi (nI 1) (by decide) ?_
  refine k_istore (L2 := [_, _, _, _, _, _, _, _]) eX0_ask_33 (Nat.le_of_ble_eq_true rfl) rfl ?_
  refine k_iload eX0_ask_35 rfl ?_
  refine k_if_eqN 75 eX0_ask_37 (by decide) (by omega) (fun c_37 => by exfalso; omega) (fun c_37 => ?_)
  refine k_aload_n eX0_ask_40 rfl ?_
  refine GX0_19 eX0_ask_41 rfl ?_
  refine k_aload_n eX0_ask_44 rfl ?_
  refine GX0_22 eX0_ask_45 rfl ?_
  refine k_topi (nI n) hran ?_
  refine k_iload eX0_ask_48 rfl ?_
  refine cN0 (M' := MX11_write) eX0_ask_50 mX0_25 wX11_write sX11_write rfl (pX11_writeN (j := n) (v := nI 1) (ar6 _) (by omega) (by decide) (as6 _ _)) (by decide) (Nat.le_of_ble_eq_true rfl) ?_
  refine k_aload_n eX0_ask_53 rfl ?_
  refine k_dup eX0_ask_54 rfl ?_
  refine GX0_22 eX0_ask_55 rfl ?_
  refine k_topi (nI n) hran ?_
  refine k_iconst (v := nI 1) eX0_ask_58 (by decide) ?_
  refine k_iaddN eX0_ask_59 ?_
  refine PX0_22 eX0_ask_60 rfl ?_
  refine k_heap (h2 := hp (trc1 S n 1)) rfl ?_
  refine k_aload_n eX0_ask_63 rfl ?_
  refine k_iload eX0_ask_64 rfl ?_
  refine k_iload_n eX0_ask_66 rfl ?_
  refine k_iload eX0_ask_67 rfl ?_
  refine k_iconst (v := nI 1) eX0_ask_69 (by decide) ?_
  refine k_iaddN eX0_ask_70 ?_
  refine cV1 (M' := MX0_run) eX0_ask_71 mX0_68 wX0_run vX0_run ⟨_, _, _, rfl, rfl, rfl⟩ rfl (pX0_run_7_1 (S := (trc1 S n 1)) (n := n + 1) (dep := (dep + 1)) (nb := nb) (t1K hK) (t1N hnb) rfl (by omega) (by omega) (x)) (by decide) (Nat.le_of_ble_eq_true rfl) ?_
  refine k_ireturn eX0_ask_74 rfl rfl ?_
  exact ⟨rfl, rfl⟩
set_option maxHeartbeats 400000 in
theorem pX0_run_7_41 {S : k_S} {n dep : Nat} {nb : Int32} (hK : S.1 205 = nI 7) (hnb : S.1 204 = nb) (hran : S.1 203 = nI n) (hn : n + 1 ≤ 24) (hdep : dep + 1 ≤ 40) (x : Int32) : Sp 2 0 0 MX0_run [.ref 4, .int (nI 41), .int (x), .int (nI dep)] (hp S) (Rt (some (.int (((x + nI 1) + nb)))) (hp (trc S n [1]))) := by
  refine Sp_of (by decide +kernel) (Nat.le_of_ble_eq_true rfl) ?_
  show AW none MX0_run 2 0 0 0 [.ref 4, .int (nI 41), .int (x), .int (nI dep)] [] (hp S) _
  refine k_iload_n eX0_run_0 rfl ?_
  refine k_look 197 eX0_run_1 (by decide) (off := 196) (by decide) (by decide) ?_
  refine k_aload_n eX0_run_197 rfl ?_
  refine k_iconst (v := nI 3) eX0_run_198 (by decide) ?_
  refine cS1 (M' := MX0_above) eX0_run_199 mX0_33 wX0_above sX0_above rfl (pX0_above (S := S) (k := 3) (by decide)) (by decide) (Nat.le_of_ble_eq_true rfl) ?_
  refine k_topi (nI 2) (by decide) ?_
  refine k_iconst (v := nI 0) eX0_run_202 (by decide) ?_
  refine k_iload_n eX0_run_203 rfl ?_
  refine k_iconst (v := nI 1) eX0_run_204 (by decide) ?_
  refine k_iadd eX0_run_205 ?_
  refine k_iload_n eX0_run_206 rfl ?_
  refine cV1 (M' := MX0_ask) eX0_run_207 mX0_54 wX0_ask vX0_ask ⟨_, _, _, rfl, rfl, rfl⟩ rfl (pX0_ask_7_2_0 (S := S) (n := n) (dep := dep) (nb := nb) hK hnb hran (by omega) (by omega) ((x + nI 1))) (by decide) (Nat.le_of_ble_eq_true rfl) ?_
  refine k_ireturn eX0_run_210 rfl rfl ?_
  exact ⟨rfl, rfl⟩
set_option maxHeartbeats 400000 in
theorem pX0_ask_7_7_0 {S : k_S} {n dep : Nat} {nb : Int32} (hK : S.1 205 = nI 7) (hnb : S.1 204 = nb) (hran : S.1 203 = nI n) (hn : n + 2 ≤ 24) (hdep : dep + 2 ≤ 40) (x : Int32) : Sp 3 0 0 MX0_ask [.ref 4, .int (nI 7), .int (nI 0), .int (x), .int (nI dep)] (hp S) (Rt (some (.int (((x + nI 1) + nb)))) (hp (trc S n [41, 1]))) := by
  refine Sp_of (by decide +kernel) (Nat.le_of_ble_eq_true rfl) ?_
  show AW none MX0_ask 3 0 0 0 [.ref 4, .int (nI 7), .int (nI 0), .int (x), .int (nI dep), .null, .null, .null] [] (hp S) _
  refine k_iload eX0_ask_0 rfl ?_
  refine k_bipush (v := nI 40) eX0_ask_2 (by decide) ?_
  refine k_icmp_leN 9 eX0_ask_4 (by decide) (by omega) (by omega) (fun c_4 => ?_) (fun c_4 => by exfalso; omega)
  refine k_iload_n eX0_ask_9 rfl ?_
  refine k_istore (L2 := [_, _, _, _, _, _, _, _]) eX0_ask_10 (Nat.le_of_ble_eq_true rfl) rfl ?_
  refine k_iconst (v := nI 0) eX0_ask_12 (by decide) ?_
  refine k_istore (L2 := [_, _, _, _, _, _, _, _]) eX0_ask_13 (Nat.le_of_ble_eq_true rfl) rfl ?_
  refine k_iload eX0_ask_15 rfl ?_
  refine k_bipush (v := nI 8) eX0_ask_17 (by decide) ?_
  refine k_icmp_gtN 88 eX0_ask_19 (by decide) (by omega) (by omega) (fun c_19 => by exfalso; omega) (fun c_19 => ?_)
  refine k_iload eX0_ask_22 rfl ?_
  refine k_if_ltN 88 eX0_ask_24 (by decide) (by omega) ?_
  refine k_iload eX0_ask_27 rfl ?_
  refine k_iload_n eX0_ask_29 rfl ?_
  refine cS1 (M' := MX0_bodyOf) eX0_ask_30 mX0_64 wX0_bodyOf sX0_bodyOf rfl (pX0_bodyOf (S := S) (k := 7) (s := 0) (by decide) (by decide)) (by decide) (Nat.le_of_ble_eq_true rfl) ?_
  refine k_topi (nI 0) (by decide) ?_
  refine k_istore (L2 := [_, _, _, _, _, _, _, _]) eX0_ask_33 (Nat.le_of_ble_eq_true rfl) rfl ?_
  refine k_iload eX0_ask_35 rfl ?_
  refine k_if_eqN 75 eX0_ask_37 (by decide) (by omega) (fun c_37 => ?_) (fun c_37 => by exfalso; omega)
  refine k_iload eX0_ask_75 rfl ?_
  refine cS1 (M' := MX0_above) eX0_ask_77 mX0_33 wX0_above sX0_above rfl (pX0_above (S := S) (k := 7) (by decide)) (by decide) (Nat.le_of_ble_eq_true rfl) ?_
  refine k_topi (nI 3) (by decide) ?_
  refine k_istore (L2 := [_, _, _, _, _, _, _, _]) eX0_ask_80 (Nat.le_of_ble_eq_true rfl) rfl ?_
  refine k_iincN (g := 1) (a := 0) (L2 := [_, _, _, _, _, _, _, _]) eX0_ask_82 (Nat.le_of_ble_eq_true rfl) rfl rfl ?_
  refine k_goto 15 eX0_ask_85 (by decide) ?_
  refine k_iload eX0_ask_15 rfl ?_
  refine k_bipush (v := nI 8) eX0_ask_17 (by decide) ?_
  refine k_icmp_gtN 88 eX0_ask_19 (by decide) (by omega) (by omega) (fun c_19 => by exfalso; omega) (fun c_19 => ?_)
  refine k_iload eX0_ask_22 rfl ?_
  refine k_if_ltN 88 eX0_ask_24 (by decide) (by omega) ?_
  refine k_iload eX0_ask_27 rfl ?_
  refine k_iload_n eX0_ask_29 rfl ?_
  refine cS1 (M' := MX0_bodyOf) eX0_ask_30 mX0_64 wX0_bodyOf sX0_bodyOf rfl (pX0_bodyOf (S := S) (k := 3) (s := 0) (by decide) (by decide)) (by decide) (Nat.le_of_ble_eq_true rfl) ?_
  refine k_topi (nI 41) (by decide) ?_
  refine k_istore (L2 := [_, _, _, _, _, _, _, _]) eX0_ask_33 (Nat.le_of_ble_eq_true rfl) rfl ?_
  refine k_iload eX0_ask_35 rfl ?_
  refine k_if_eqN 75 eX0_ask_37 (by decide) (by omega) (fun c_37 => by exfalso; omega) (fun c_37 => ?_)
  refine k_aload_n eX0_ask_40 rfl ?_
  refine GX0_19 eX0_ask_41 rfl ?_
  refine k_aload_n eX0_ask_44 rfl ?_
  refine GX0_22 eX0_ask_45 rfl ?_
  refine k_topi (nI n) hran ?_
  refine k_iload eX0_ask_48 rfl ?_
  refine cN0 (M' := MX11_write) eX0_ask_50 mX0_25 wX11_write sX11_write rfl (pX11_writeN (j := n) (v := nI 41) (ar6 _) (by omega) (by decide) (as6 _ _)) (by decide) (Nat.le_of_ble_eq_true rfl) ?_
  refine k_aload_n eX0_ask_53 rfl ?_
  refine k_dup eX0_ask_54 rfl ?_
  refine GX0_22 eX0_ask_55 rfl ?_
  refine k_topi (nI n) hran ?_
  refine k_iconst (v := nI 1) eX0_ask_58 (by decide) ?_
  refine k_iaddN eX0_ask_59 ?_
  refine PX0_22 eX0_ask_60 rfl ?_
  refine k_heap (h2 := hp (trc1 S n 41)) rfl ?_
  refine k_aload_n eX0_ask_63 rfl ?_
  refine k_iload eX0_ask_64 rfl ?_
  refine k_iload_n eX0_ask_66 rfl ?_
  refine k_iload eX0_ask_67 rfl ?_
  refine k_iconst (v := nI 1) eX0_ask_69 (by decide) ?_
  refine k_iaddN eX0_ask_70 ?_
  refine cV1 (M' := MX0_run) eX0_ask_71 mX0_68 wX0_run vX0_run ⟨_, _, _, rfl, rfl, rfl⟩ rfl (pX0_run_7_41 (S := (trc1 S n 41)) (n := n + 1) (dep := (dep + 1)) (nb := nb) (t1K hK) (t1N hnb) rfl (by omega) (by omega) (x)) (by decide) (Nat.le_of_ble_eq_true rfl) ?_
  refine k_ireturn eX0_ask_74 rfl rfl ?_
  exact ⟨rfl, congrArg hp (trc_cons S n 41 [1]).symm⟩
set_option maxHeartbeats 400000 in
theorem pX0_own_7_0 {S : k_S} {n dep : Nat} {nb : Int32} (hK : S.1 205 = nI 7) (hnb : S.1 204 = nb) (hran : S.1 203 = nI n) (hn : n + 2 ≤ 24) (hdep : dep + 2 ≤ 40) (x : Int32) : Sp 4 0 0 MX0_own [.ref 4, .int (nI 0), .int (x), .int (nI dep)] (hp S) (Rt (some (.int (((x + nI 1) + nb)))) (hp (trc S n [41, 1]))) := by
  refine Sp_of (by decide +kernel) (Nat.le_of_ble_eq_true rfl) ?_
  show AW none MX0_own 4 0 0 0 [.ref 4, .int (nI 0), .int (x), .int (nI dep)] [] (hp S) _
  refine k_aload_n eX0_own_0 rfl ?_
  refine k_aload_n eX0_own_1 rfl ?_
  refine GX0_51 eX0_own_2 rfl ?_
  refine k_topi (nI 7) hK ?_
  refine k_iload_n eX0_own_5 rfl ?_
  refine k_iload_n eX0_own_6 rfl ?_
  refine k_iload_n eX0_own_7 rfl ?_
  refine cV1 (M' := MX0_ask) eX0_own_8 mX0_54 wX0_ask vX0_ask ⟨_, _, _, rfl, rfl, rfl⟩ rfl (pX0_ask_7_7_0 (S := S) (n := n) (dep := dep) (nb := nb) hK hnb hran (by omega) (by omega) (x)) (by decide) (Nat.le_of_ble_eq_true rfl) ?_
  refine k_ireturn eX0_own_11 rfl rfl ?_
  exact ⟨rfl, rfl⟩
set_option maxHeartbeats 400000 in
theorem pX0_run_7_10 {S : k_S} {n dep : Nat} {nb : Int32} (hK : S.1 205 = nI 7) (hnb : S.1 204 = nb) (hran : S.1 203 = nI n) (hn : n + 2 ≤ 24) (hdep : dep + 2 ≤ 40) (x : Int32) : Sp 5 0 0 MX0_run [.ref 4, .int (nI 10), .int (x), .int (nI dep)] (hp S) (Rt (some (.int ((((x + nI 1) + nb) * nI 2)))) (hp (trc S n [41, 1]))) := by
  refine Sp_of (by decide +kernel) (Nat.le_of_ble_eq_true rfl) ?_
  show AW none MX0_run 5 0 0 0 [.ref 4, .int (nI 10), .int (x), .int (nI dep)] [] (hp S) _
  refine k_iload_n eX0_run_0 rfl ?_
  refine k_look 139 eX0_run_1 (by decide) (off := 138) (by decide) (by decide) ?_
  refine k_aload_n eX0_run_139 rfl ?_
  refine k_iconst (v := nI 0) eX0_run_140 (by decide) ?_
  refine k_iload_n eX0_run_141 rfl ?_
  refine k_iload_n eX0_run_142 rfl ?_
  refine cV1 (M' := MX0_own) eX0_run_143 mX0_72 wX0_own vX0_own ⟨_, _, _, rfl, rfl, rfl⟩ rfl (pX0_own_7_0 (S := S) (n := n) (dep := dep) (nb := nb) hK hnb hran (by omega) (by omega) (x)) (by decide) (Nat.le_of_ble_eq_true rfl) ?_
  refine k_iconst (v := nI 2) eX0_run_146 (by decide) ?_
  refine k_imul eX0_run_147 ?_
  refine k_ireturn eX0_run_148 rfl rfl ?_
  exact ⟨rfl, rfl⟩
set_option maxHeartbeats 400000 in
theorem pX0_ask_7_0_1 {S : k_S} {n dep : Nat} {nb : Int32} (hK : S.1 205 = nI 7) (hnb : S.1 204 = nb) (hran : S.1 203 = nI n) (hn : n + 3 ≤ 24) (hdep : dep + 3 ≤ 40) (x : Int32) : Sp 6 0 0 MX0_ask [.ref 4, .int (nI 0), .int (nI 1), .int (x), .int (nI dep)] (hp S) (Rt (some (.int ((((x + nI 1) + nb) * nI 2)))) (hp (trc S n [10, 41, 1]))) := by
  refine Sp_of (by decide +kernel) (Nat.le_of_ble_eq_true rfl) ?_
  show AW none MX0_ask 6 0 0 0 [.ref 4, .int (nI 0), .int (nI 1), .int (x), .int (nI dep), .null, .null, .null] [] (hp S) _
  refine k_iload eX0_ask_0 rfl ?_
  refine k_bipush (v := nI 40) eX0_ask_2 (by decide) ?_
  refine k_icmp_leN 9 eX0_ask_4 (by decide) (by omega) (by omega) (fun c_4 => ?_) (fun c_4 => by exfalso; omega)
  refine k_iload_n eX0_ask_9 rfl ?_
  refine k_istore (L2 := [_, _, _, _, _, _, _, _]) eX0_ask_10 (Nat.le_of_ble_eq_true rfl) rfl ?_
  refine k_iconst (v := nI 0) eX0_ask_12 (by decide) ?_
  refine k_istore (L2 := [_, _, _, _, _, _, _, _]) eX0_ask_13 (Nat.le_of_ble_eq_true rfl) rfl ?_
  refine k_iload eX0_ask_15 rfl ?_
  refine k_bipush (v := nI 8) eX0_ask_17 (by decide) ?_
  refine k_icmp_gtN 88 eX0_ask_19 (by decide) (by omega) (by omega) (fun c_19 => by exfalso; omega) (fun c_19 => ?_)
  refine k_iload eX0_ask_22 rfl ?_
  refine k_if_ltN 88 eX0_ask_24 (by decide) (by omega) ?_
  refine k_iload eX0_ask_27 rfl ?_
  refine k_iload_n eX0_ask_29 rfl ?_
  refine cS1 (M' := MX0_bodyOf) eX0_ask_30 mX0_64 wX0_bodyOf sX0_bodyOf rfl (pX0_bodyOf (S := S) (k := 0) (s := 1) (by decide) (by decide)) (by decide) (Nat.le_of_ble_eq_true rfl) ?_
  refine k_topi (nI 10) (by decide) ?_
  refine k_istore (L2 := [_, _, _, _, _, _, _, _]) eX0_ask_33 (Nat.le_of_ble_eq_true rfl) rfl ?_
  refine k_iload eX0_ask_35 rfl ?_
  refine k_if_eqN 75 eX0_ask_37 (by decide) (by omega) (fun c_37 => by exfalso; omega) (fun c_37 => ?_)
  refine k_aload_n eX0_ask_40 rfl ?_
  refine GX0_19 eX0_ask_41 rfl ?_
  refine k_aload_n eX0_ask_44 rfl ?_
  refine GX0_22 eX0_ask_45 rfl ?_
  refine k_topi (nI n) hran ?_
  refine k_iload eX0_ask_48 rfl ?_
  refine cN0 (M' := MX11_write) eX0_ask_50 mX0_25 wX11_write sX11_write rfl (pX11_writeN (j := n) (v := nI 10) (ar6 _) (by omega) (by decide) (as6 _ _)) (by decide) (Nat.le_of_ble_eq_true rfl) ?_
  refine k_aload_n eX0_ask_53 rfl ?_
  refine k_dup eX0_ask_54 rfl ?_
  refine GX0_22 eX0_ask_55 rfl ?_
  refine k_topi (nI n) hran ?_
  refine k_iconst (v := nI 1) eX0_ask_58 (by decide) ?_
  refine k_iaddN eX0_ask_59 ?_
  refine PX0_22 eX0_ask_60 rfl ?_
  refine k_heap (h2 := hp (trc1 S n 10)) rfl ?_
  refine k_aload_n eX0_ask_63 rfl ?_
  refine k_iload eX0_ask_64 rfl ?_
  refine k_iload_n eX0_ask_66 rfl ?_
  refine k_iload eX0_ask_67 rfl ?_
  refine k_iconst (v := nI 1) eX0_ask_69 (by decide) ?_
  refine k_iaddN eX0_ask_70 ?_
  refine cV1 (M' := MX0_run) eX0_ask_71 mX0_68 wX0_run vX0_run ⟨_, _, _, rfl, rfl, rfl⟩ rfl (pX0_run_7_10 (S := (trc1 S n 10)) (n := n + 1) (dep := (dep + 1)) (nb := nb) (t1K hK) (t1N hnb) rfl (by omega) (by omega) (x)) (by decide) (Nat.le_of_ble_eq_true rfl) ?_
  refine k_ireturn eX0_ask_74 rfl rfl ?_
  exact ⟨rfl, congrArg hp (trc_cons S n 10 [41, 1]).symm⟩
set_option maxHeartbeats 400000 in
theorem pX0_run_7_30 {S : k_S} {n dep : Nat} {nb : Int32} (hK : S.1 205 = nI 7) (hnb : S.1 204 = nb) (hran : S.1 203 = nI n) (hn : n + 3 ≤ 24) (hdep : dep + 3 ≤ 40) (x : Int32) : Sp 7 0 0 MX0_run [.ref 4, .int (nI 30), .int (x), .int (nI dep)] (hp S) (Rt (some (.int ((-((((x + nI 1) + nb) * nI 2)))))) (hp (trc S n [10, 41, 1]))) := by
  refine Sp_of (by decide +kernel) (Nat.le_of_ble_eq_true rfl) ?_
  show AW none MX0_run 7 0 0 0 [.ref 4, .int (nI 30), .int (x), .int (nI dep)] [] (hp S) _
  refine k_iload_n eX0_run_0 rfl ?_
  refine k_look 170 eX0_run_1 (by decide) (off := 169) (by decide) (by decide) ?_
  refine k_aload_n eX0_run_170 rfl ?_
  refine k_iconst (v := nI 2) eX0_run_171 (by decide) ?_
  refine cS1 (M' := MX0_above) eX0_run_172 mX0_33 wX0_above sX0_above rfl (pX0_above (S := S) (k := 2) (by decide)) (by decide) (Nat.le_of_ble_eq_true rfl) ?_
  refine k_topi (nI 0) (by decide) ?_
  refine k_iconst (v := nI 1) eX0_run_175 (by decide) ?_
  refine k_iload_n eX0_run_176 rfl ?_
  refine k_iload_n eX0_run_177 rfl ?_
  refine cV1 (M' := MX0_ask) eX0_run_178 mX0_54 wX0_ask vX0_ask ⟨_, _, _, rfl, rfl, rfl⟩ rfl (pX0_ask_7_0_1 (S := S) (n := n) (dep := dep) (nb := nb) hK hnb hran (by omega) (by omega) (x)) (by decide) (Nat.le_of_ble_eq_true rfl) ?_
  refine k_ineg eX0_run_181 ?_
  refine k_ireturn eX0_run_182 rfl rfl ?_
  exact ⟨rfl, rfl⟩
set_option maxHeartbeats 400000 in
theorem pX0_ask_7_3_1 {S : k_S} {n dep : Nat} {nb : Int32} (hK : S.1 205 = nI 7) (hnb : S.1 204 = nb) (hran : S.1 203 = nI n) (hn : n + 4 ≤ 24) (hdep : dep + 4 ≤ 40) (x : Int32) : Sp 8 0 0 MX0_ask [.ref 4, .int (nI 3), .int (nI 1), .int (x), .int (nI dep)] (hp S) (Rt (some (.int ((-((((x + nI 1) + nb) * nI 2)))))) (hp (trc S n [30, 10, 41, 1]))) := by
  refine Sp_of (by decide +kernel) (Nat.le_of_ble_eq_true rfl) ?_
  show AW none MX0_ask 8 0 0 0 [.ref 4, .int (nI 3), .int (nI 1), .int (x), .int (nI dep), .null, .null, .null] [] (hp S) _
  refine k_iload eX0_ask_0 rfl ?_
  refine k_bipush (v := nI 40) eX0_ask_2 (by decide) ?_
  refine k_icmp_leN 9 eX0_ask_4 (by decide) (by omega) (by omega) (fun c_4 => ?_) (fun c_4 => by exfalso; omega)
  refine k_iload_n eX0_ask_9 rfl ?_
  refine k_istore (L2 := [_, _, _, _, _, _, _, _]) eX0_ask_10 (Nat.le_of_ble_eq_true rfl) rfl ?_
  refine k_iconst (v := nI 0) eX0_ask_12 (by decide) ?_
  refine k_istore (L2 := [_, _, _, _, _, _, _, _]) eX0_ask_13 (Nat.le_of_ble_eq_true rfl) rfl ?_
  refine k_iload eX0_ask_15 rfl ?_
  refine k_bipush (v := nI 8) eX0_ask_17 (by decide) ?_
  refine k_icmp_gtN 88 eX0_ask_19 (by decide) (by omega) (by omega) (fun c_19 => by exfalso; omega) (fun c_19 => ?_)
  refine k_iload eX0_ask_22 rfl ?_
  refine k_if_ltN 88 eX0_ask_24 (by decide) (by omega) ?_
  refine k_iload eX0_ask_27 rfl ?_
  refine k_iload_n eX0_ask_29 rfl ?_
  refine cS1 (M' := MX0_bodyOf) eX0_ask_30 mX0_64 wX0_bodyOf sX0_bodyOf rfl (pX0_bodyOf (S := S) (k := 3) (s := 1) (by decide) (by decide)) (by decide) (Nat.le_of_ble_eq_true rfl) ?_
  refine k_topi (nI 0) (by decide) ?_
  refine k_istore (L2 := [_, _, _, _, _, _, _, _]) eX0_ask_33 (Nat.le_of_ble_eq_true rfl) rfl ?_
  refine k_iload eX0_ask_35 rfl ?_
  refine k_if_eqN 75 eX0_ask_37 (by decide) (by omega) (fun c_37 => ?_) (fun c_37 => by exfalso; omega)
  refine k_iload eX0_ask_75 rfl ?_
  refine cS1 (M' := MX0_above) eX0_ask_77 mX0_33 wX0_above sX0_above rfl (pX0_above (S := S) (k := 3) (by decide)) (by decide) (Nat.le_of_ble_eq_true rfl) ?_
  refine k_topi (nI 2) (by decide) ?_
  refine k_istore (L2 := [_, _, _, _, _, _, _, _]) eX0_ask_80 (Nat.le_of_ble_eq_true rfl) rfl ?_
  refine k_iincN (g := 1) (a := 0) (L2 := [_, _, _, _, _, _, _, _]) eX0_ask_82 (Nat.le_of_ble_eq_true rfl) rfl rfl ?_
  refine k_goto 15 eX0_ask_85 (by decide) ?_
  refine k_iload eX0_ask_15 rfl ?_
  refine k_bipush (v := nI 8) eX0_ask_17 (by decide) ?_
  refine k_icmp_gtN 88 eX0_ask_19 (by decide) (by omega) (by omega) (fun c_19 => by exfalso; omega) (fun c_19 => ?_)
  refine k_iload eX0_ask_22 rfl ?_
  refine k_if_ltN 88 eX0_ask_24 (by decide) (by omega) ?_
  refine k_iload eX0_ask_27 rfl ?_
  refine k_iload_n eX0_ask_29 rfl ?_
  refine cS1 (M' := MX0_bodyOf) eX0_ask_30 mX0_64 wX0_bodyOf sX0_bodyOf rfl (pX0_bodyOf (S := S) (k := 2) (s := 1) (by decide) (by decide)) (by decide) (Nat.le_of_ble_eq_true rfl) ?_
  refine k_topi (nI 30) (by decide) ?_
  refine k_istore (L2 := [_, _, _, _, _, _, _, _]) eX0_ask_33 (Nat.le_of_ble_eq_true rfl) rfl ?_
  refine k_iload eX0_ask_35 rfl ?_
  refine k_if_eqN 75 eX0_ask_37 (by decide) (by omega) (fun c_37 => by exfalso; omega) (fun c_37 => ?_)
  refine k_aload_n eX0_ask_40 rfl ?_
  refine GX0_19 eX0_ask_41 rfl ?_
  refine k_aload_n eX0_ask_44 rfl ?_
  refine GX0_22 eX0_ask_45 rfl ?_
  refine k_topi (nI n) hran ?_
  refine k_iload eX0_ask_48 rfl ?_
  refine cN0 (M' := MX11_write) eX0_ask_50 mX0_25 wX11_write sX11_write rfl (pX11_writeN (j := n) (v := nI 30) (ar6 _) (by omega) (by decide) (as6 _ _)) (by decide) (Nat.le_of_ble_eq_true rfl) ?_
  refine k_aload_n eX0_ask_53 rfl ?_
  refine k_dup eX0_ask_54 rfl ?_
  refine GX0_22 eX0_ask_55 rfl ?_
  refine k_topi (nI n) hran ?_
  refine k_iconst (v := nI 1) eX0_ask_58 (by decide) ?_
  refine k_iaddN eX0_ask_59 ?_
  refine PX0_22 eX0_ask_60 rfl ?_
  refine k_heap (h2 := hp (trc1 S n 30)) rfl ?_
  refine k_aload_n eX0_ask_63 rfl ?_
  refine k_iload eX0_ask_64 rfl ?_
  refine k_iload_n eX0_ask_66 rfl ?_
  refine k_iload eX0_ask_67 rfl ?_
  refine k_iconst (v := nI 1) eX0_ask_69 (by decide) ?_
  refine k_iaddN eX0_ask_70 ?_
  refine cV1 (M' := MX0_run) eX0_ask_71 mX0_68 wX0_run vX0_run ⟨_, _, _, rfl, rfl, rfl⟩ rfl (pX0_run_7_30 (S := (trc1 S n 30)) (n := n + 1) (dep := (dep + 1)) (nb := nb) (t1K hK) (t1N hnb) rfl (by omega) (by omega) (x)) (by decide) (Nat.le_of_ble_eq_true rfl) ?_
  refine k_ireturn eX0_ask_74 rfl rfl ?_
  exact ⟨rfl, congrArg hp (trc_cons S n 30 [10, 41, 1]).symm⟩
set_option maxHeartbeats 400000 in
theorem pX0_run_7_11 {S : k_S} {n dep : Nat} {nb : Int32} (hK : S.1 205 = nI 7) (hnb : S.1 204 = nb) (hran : S.1 203 = nI n) (hn : n + 0 ≤ 24) (hdep : dep + 0 ≤ 40) (x : Int32) : Sp 0 0 0 MX0_run [.ref 4, .int (nI 11), .int (x), .int (nI dep)] (hp S) (Rt (some (.int ((x ^^^ nb)))) (hp S)) := by
  refine Sp_of (by decide +kernel) (Nat.le_of_ble_eq_true rfl) ?_
  show AW none MX0_run 0 0 0 0 [.ref 4, .int (nI 11), .int (x), .int (nI dep)] [] (hp S) _
  refine k_iload_n eX0_run_0 rfl ?_
  refine k_look 149 eX0_run_1 (by decide) (off := 148) (by decide) (by decide) ?_
  refine k_iload_n eX0_run_149 rfl ?_
  refine k_aload_n eX0_run_150 rfl ?_
  refine GX0_45 eX0_run_151 rfl ?_
  refine k_topi (nb) hnb ?_
  refine k_ixor eX0_run_154 ?_
  refine k_ireturn eX0_run_155 rfl rfl ?_
  exact ⟨rfl, rfl⟩
set_option maxHeartbeats 400000 in
theorem pX0_ask_7_2_2 {S : k_S} {n dep : Nat} {nb : Int32} (hK : S.1 205 = nI 7) (hnb : S.1 204 = nb) (hran : S.1 203 = nI n) (hn : n + 1 ≤ 24) (hdep : dep + 1 ≤ 40) (x : Int32) : Sp 1 0 0 MX0_ask [.ref 4, .int (nI 2), .int (nI 2), .int (x), .int (nI dep)] (hp S) (Rt (some (.int ((x ^^^ nb)))) (hp (trc S n [11]))) := by
  refine Sp_of (by decide +kernel) (Nat.le_of_ble_eq_true rfl) ?_
  show AW none MX0_ask 1 0 0 0 [.ref 4, .int (nI 2), .int (nI 2), .int (x), .int (nI dep), .null, .null, .null] [] (hp S) _
  refine k_iload eX0_ask_0 rfl ?_
  refine k_bipush (v := nI 40) eX0_ask_2 (by decide) ?_
  refine k_icmp_leN 9 eX0_ask_4 (by decide) (by omega) (by omega) (fun c_4 => ?_) (fun c_4 => by exfalso; omega)
  refine k_iload_n eX0_ask_9 rfl ?_
  refine k_istore (L2 := [_, _, _, _, _, _, _, _]) eX0_ask_10 (Nat.le_of_ble_eq_true rfl) rfl ?_
  refine k_iconst (v := nI 0) eX0_ask_12 (by decide) ?_
  refine k_istore (L2 := [_, _, _, _, _, _, _, _]) eX0_ask_13 (Nat.le_of_ble_eq_true rfl) rfl ?_
  refine k_iload eX0_ask_15 rfl ?_
  refine k_bipush (v := nI 8) eX0_ask_17 (by decide) ?_
  refine k_icmp_gtN 88 eX0_ask_19 (by decide) (by omega) (by omega) (fun c_19 => by exfalso; omega) (fun c_19 => ?_)
  refine k_iload eX0_ask_22 rfl ?_
  refine k_if_ltN 88 eX0_ask_24 (by decide) (by omega) ?_
  refine k_iload eX0_ask_27 rfl ?_
  refine k_iload_n eX0_ask_29 rfl ?_
  refine cS1 (M' := MX0_bodyOf) eX0_ask_30 mX0_64 wX0_bodyOf sX0_bodyOf rfl (pX0_bodyOf (S := S) (k := 2) (s := 2) (by decide) (by decide)) (by decide) (Nat.le_of_ble_eq_true rfl) ?_
  refine k_topi (nI 0) (by decide) ?_
  refine k_istore (L2 := [_, _, _, _, _, _, _, _]) eX0_ask_33 (Nat.le_of_ble_eq_true rfl) rfl ?_
  refine k_iload eX0_ask_35 rfl ?_
  refine k_if_eqN 75 eX0_ask_37 (by decide) (by omega) (fun c_37 => ?_) (fun c_37 => by exfalso; omega)
  refine k_iload eX0_ask_75 rfl ?_
  refine cS1 (M' := MX0_above) eX0_ask_77 mX0_33 wX0_above sX0_above rfl (pX0_above (S := S) (k := 2) (by decide)) (by decide) (Nat.le_of_ble_eq_true rfl) ?_
  refine k_topi (nI 0) (by decide) ?_
  refine k_istore (L2 := [_, _, _, _, _, _, _, _]) eX0_ask_80 (Nat.le_of_ble_eq_true rfl) rfl ?_
  refine k_iincN (g := 1) (a := 0) (L2 := [_, _, _, _, _, _, _, _]) eX0_ask_82 (Nat.le_of_ble_eq_true rfl) rfl rfl ?_
  refine k_goto 15 eX0_ask_85 (by decide) ?_
  refine k_iload eX0_ask_15 rfl ?_
  refine k_bipush (v := nI 8) eX0_ask_17 (by decide) ?_
  refine k_icmp_gtN 88 eX0_ask_19 (by decide) (by omega) (by omega) (fun c_19 => by exfalso; omega) (fun c_19 => ?_)
  refine k_iload eX0_ask_22 rfl ?_
  refine k_if_ltN 88 eX0_ask_24 (by decide) (by omega) ?_
  refine k_iload eX0_ask_27 rfl ?_
  refine k_iload_n eX0_ask_29 rfl ?_
  refine cS1 (M' := MX0_bodyOf) eX0_ask_30 mX0_64 wX0_bodyOf sX0_bodyOf rfl (pX0_bodyOf (S := S) (k := 0) (s := 2) (by decide) (by decide)) (by decide) (Nat.le_of_ble_eq_true rfl) ?_
  refine k_topi (nI 11) (by decide) ?_
  refine k_istore (L2 := [_, _, _, _, _, _, _, _]) eX0_ask_33 (Nat.le_of_ble_eq_true rfl) rfl ?_
  refine k_iload eX0_ask_35 rfl ?_
  refine k_if_eqN 75 eX0_ask_37 (by decide) (by omega) (fun c_37 => by exfalso; omega) (fun c_37 => ?_)
  refine k_aload_n eX0_ask_40 rfl ?_
  refine GX0_19 eX0_ask_41 rfl ?_
  refine k_aload_n eX0_ask_44 rfl ?_
  refine GX0_22 eX0_ask_45 rfl ?_
  refine k_topi (nI n) hran ?_
  refine k_iload eX0_ask_48 rfl ?_
  refine cN0 (M' := MX11_write) eX0_ask_50 mX0_25 wX11_write sX11_write rfl (pX11_writeN (j := n) (v := nI 11) (ar6 _) (by omega) (by decide) (as6 _ _)) (by decide) (Nat.le_of_ble_eq_true rfl) ?_
  refine k_aload_n eX0_ask_53 rfl ?_
  refine k_dup eX0_ask_54 rfl ?_
  refine GX0_22 eX0_ask_55 rfl ?_
  refine k_topi (nI n) hran ?_
  refine k_iconst (v := nI 1) eX0_ask_58 (by decide) ?_
  refine k_iaddN eX0_ask_59 ?_
  refine PX0_22 eX0_ask_60 rfl ?_
  refine k_heap (h2 := hp (trc1 S n 11)) rfl ?_
  refine k_aload_n eX0_ask_63 rfl ?_
  refine k_iload eX0_ask_64 rfl ?_
  refine k_iload_n eX0_ask_66 rfl ?_
  refine k_iload eX0_ask_67 rfl ?_
  refine k_iconst (v := nI 1) eX0_ask_69 (by decide) ?_
  refine k_iaddN eX0_ask_70 ?_
  refine cV1 (M' := MX0_run) eX0_ask_71 mX0_68 wX0_run vX0_run ⟨_, _, _, rfl, rfl, rfl⟩ rfl (pX0_run_7_11 (S := (trc1 S n 11)) (n := n + 1) (dep := (dep + 1)) (nb := nb) (t1K hK) (t1N hnb) rfl (by omega) (by omega) (x)) (by decide) (Nat.le_of_ble_eq_true rfl) ?_
  refine k_ireturn eX0_ask_74 rfl rfl ?_
  exact ⟨rfl, rfl⟩
set_option maxHeartbeats 400000 in
theorem pX0_run_7_40 {S : k_S} {n dep : Nat} {nb : Int32} (hK : S.1 205 = nI 7) (hnb : S.1 204 = nb) (hran : S.1 203 = nI n) (hn : n + 1 ≤ 24) (hdep : dep + 1 ≤ 40) (x : Int32) : Sp 2 0 0 MX0_run [.ref 4, .int (nI 40), .int (x), .int (nI dep)] (hp S) (Rt (some (.int (((x ^^^ nb) * nI 3)))) (hp (trc S n [11]))) := by
  refine Sp_of (by decide +kernel) (Nat.le_of_ble_eq_true rfl) ?_
  show AW none MX0_run 2 0 0 0 [.ref 4, .int (nI 40), .int (x), .int (nI dep)] [] (hp S) _
  refine k_iload_n eX0_run_0 rfl ?_
  refine k_look 183 eX0_run_1 (by decide) (off := 182) (by decide) (by decide) ?_
  refine k_aload_n eX0_run_183 rfl ?_
  refine k_iconst (v := nI 3) eX0_run_184 (by decide) ?_
  refine cS1 (M' := MX0_above) eX0_run_185 mX0_33 wX0_above sX0_above rfl (pX0_above (S := S) (k := 3) (by decide)) (by decide) (Nat.le_of_ble_eq_true rfl) ?_
  refine k_topi (nI 2) (by decide) ?_
  refine k_iconst (v := nI 2) eX0_run_188 (by decide) ?_
  refine k_iload_n eX0_run_189 rfl ?_
  refine k_iload_n eX0_run_190 rfl ?_
  refine cV1 (M' := MX0_ask) eX0_run_191 mX0_54 wX0_ask vX0_ask ⟨_, _, _, rfl, rfl, rfl⟩ rfl (pX0_ask_7_2_2 (S := S) (n := n) (dep := dep) (nb := nb) hK hnb hran (by omega) (by omega) (x)) (by decide) (Nat.le_of_ble_eq_true rfl) ?_
  refine k_iconst (v := nI 3) eX0_run_194 (by decide) ?_
  refine k_imul eX0_run_195 ?_
  refine k_ireturn eX0_run_196 rfl rfl ?_
  exact ⟨rfl, rfl⟩
set_option maxHeartbeats 400000 in
theorem pX0_ask_7_7_2 {S : k_S} {n dep : Nat} {nb : Int32} (hK : S.1 205 = nI 7) (hnb : S.1 204 = nb) (hran : S.1 203 = nI n) (hn : n + 2 ≤ 24) (hdep : dep + 2 ≤ 40) (x : Int32) : Sp 3 0 0 MX0_ask [.ref 4, .int (nI 7), .int (nI 2), .int (x), .int (nI dep)] (hp S) (Rt (some (.int (((x ^^^ nb) * nI 3)))) (hp (trc S n [40, 11]))) := by
  refine Sp_of (by decide +kernel) (Nat.le_of_ble_eq_true rfl) ?_
  show AW none MX0_ask 3 0 0 0 [.ref 4, .int (nI 7), .int (nI 2), .int (x), .int (nI dep), .null, .null, .null] [] (hp S) _
  refine k_iload eX0_ask_0 rfl ?_
  refine k_bipush (v := nI 40) eX0_ask_2 (by decide) ?_
  refine k_icmp_leN 9 eX0_ask_4 (by decide) (by omega) (by omega) (fun c_4 => ?_) (fun c_4 => by exfalso; omega)
  refine k_iload_n eX0_ask_9 rfl ?_
  refine k_istore (L2 := [_, _, _, _, _, _, _, _]) eX0_ask_10 (Nat.le_of_ble_eq_true rfl) rfl ?_
  refine k_iconst (v := nI 0) eX0_ask_12 (by decide) ?_
  refine k_istore (L2 := [_, _, _, _, _, _, _, _]) eX0_ask_13 (Nat.le_of_ble_eq_true rfl) rfl ?_
  refine k_iload eX0_ask_15 rfl ?_
  refine k_bipush (v := nI 8) eX0_ask_17 (by decide) ?_
  refine k_icmp_gtN 88 eX0_ask_19 (by decide) (by omega) (by omega) (fun c_19 => by exfalso; omega) (fun c_19 => ?_)
  refine k_iload eX0_ask_22 rfl ?_
  refine k_if_ltN 88 eX0_ask_24 (by decide) (by omega) ?_
  refine k_iload eX0_ask_27 rfl ?_
  refine k_iload_n eX0_ask_29 rfl ?_
  refine cS1 (M' := MX0_bodyOf) eX0_ask_30 mX0_64 wX0_bodyOf sX0_bodyOf rfl (pX0_bodyOf (S := S) (k := 7) (s := 2) (by decide) (by decide)) (by decide) (Nat.le_of_ble_eq_true rfl) ?_
  refine k_topi (nI 0) (by decide) ?_
  refine k_istore (L2 := [_, _, _, _, _, _, _, _]) eX0_ask_33 (Nat.le_of_ble_eq_true rfl) rfl ?_
  refine k_iload eX0_ask_35 rfl ?_
  refine k_if_eqN 75 eX0_ask_37 (by decide) (by omega) (fun c_37 => ?_) (fun c_37 => by exfalso; omega)
  refine k_iload eX0_ask_75 rfl ?_
  refine cS1 (M' := MX0_above) eX0_ask_77 mX0_33 wX0_above sX0_above rfl (pX0_above (S := S) (k := 7) (by decide)) (by decide) (Nat.le_of_ble_eq_true rfl) ?_
  refine k_topi (nI 3) (by decide) ?_
  refine k_istore (L2 := [_, _, _, _, _, _, _, _]) eX0_ask_80 (Nat.le_of_ble_eq_true rfl) rfl ?_
  refine k_iincN (g := 1) (a := 0) (L2 := [_, _, _, _, _, _, _, _]) eX0_ask_82 (Nat.le_of_ble_eq_true rfl) rfl rfl ?_
  refine k_goto 15 eX0_ask_85 (by decide) ?_
  refine k_iload eX0_ask_15 rfl ?_
  refine k_bipush (v := nI 8) eX0_ask_17 (by decide) ?_
  refine k_icmp_gtN 88 eX0_ask_19 (by decide) (by omega) (by omega) (fun c_19 => by exfalso; omega) (fun c_19 => ?_)
  refine k_iload eX0_ask_22 rfl ?_
  refine k_if_ltN 88 eX0_ask_24 (by decide) (by omega) ?_
  refine k_iload eX0_ask_27 rfl ?_
  refine k_iload_n eX0_ask_29 rfl ?_
  refine cS1 (M' := MX0_bodyOf) eX0_ask_30 mX0_64 wX0_bodyOf sX0_bodyOf rfl (pX0_bodyOf (S := S) (k := 3) (s := 2) (by decide) (by decide)) (by decide) (Nat.le_of_ble_eq_true rfl) ?_
  refine k_topi (nI 40) (by decide) ?_
  refine k_istore (L2 := [_, _, _, _, _, _, _, _]) eX0_ask_33 (Nat.le_of_ble_eq_true rfl) rfl ?_
  refine k_iload eX0_ask_35 rfl ?_
  refine k_if_eqN 75 eX0_ask_37 (by decide) (by omega) (fun c_37 => by exfalso; omega) (fun c_37 => ?_)
  refine k_aload_n eX0_ask_40 rfl ?_
  refine GX0_19 eX0_ask_41 rfl ?_
  refine k_aload_n eX0_ask_44 rfl ?_
  refine GX0_22 eX0_ask_45 rfl ?_
  refine k_topi (nI n) hran ?_
  refine k_iload eX0_ask_48 rfl ?_
  refine cN0 (M' := MX11_write) eX0_ask_50 mX0_25 wX11_write sX11_write rfl (pX11_writeN (j := n) (v := nI 40) (ar6 _) (by omega) (by decide) (as6 _ _)) (by decide) (Nat.le_of_ble_eq_true rfl) ?_
  refine k_aload_n eX0_ask_53 rfl ?_
  refine k_dup eX0_ask_54 rfl ?_
  refine GX0_22 eX0_ask_55 rfl ?_
  refine k_topi (nI n) hran ?_
  refine k_iconst (v := nI 1) eX0_ask_58 (by decide) ?_
  refine k_iaddN eX0_ask_59 ?_
  refine PX0_22 eX0_ask_60 rfl ?_
  refine k_heap (h2 := hp (trc1 S n 40)) rfl ?_
  refine k_aload_n eX0_ask_63 rfl ?_
  refine k_iload eX0_ask_64 rfl ?_
  refine k_iload_n eX0_ask_66 rfl ?_
  refine k_iload eX0_ask_67 rfl ?_
  refine k_iconst (v := nI 1) eX0_ask_69 (by decide) ?_
  refine k_iaddN eX0_ask_70 ?_
  refine cV1 (M' := MX0_run) eX0_ask_71 mX0_68 wX0_run vX0_run ⟨_, _, _, rfl, rfl, rfl⟩ rfl (pX0_run_7_40 (S := (trc1 S n 40)) (n := n + 1) (dep := (dep + 1)) (nb := nb) (t1K hK) (t1N hnb) rfl (by omega) (by omega) (x)) (by decide) (Nat.le_of_ble_eq_true rfl) ?_
  refine k_ireturn eX0_ask_74 rfl rfl ?_
  exact ⟨rfl, congrArg hp (trc_cons S n 40 [11]).symm⟩
set_option maxHeartbeats 400000 in
theorem pX0_own_7_2 {S : k_S} {n dep : Nat} {nb : Int32} (hK : S.1 205 = nI 7) (hnb : S.1 204 = nb) (hran : S.1 203 = nI n) (hn : n + 2 ≤ 24) (hdep : dep + 2 ≤ 40) (x : Int32) : Sp 4 0 0 MX0_own [.ref 4, .int (nI 2), .int (x), .int (nI dep)] (hp S) (Rt (some (.int (((x ^^^ nb) * nI 3)))) (hp (trc S n [40, 11]))) := by
  refine Sp_of (by decide +kernel) (Nat.le_of_ble_eq_true rfl) ?_
  show AW none MX0_own 4 0 0 0 [.ref 4, .int (nI 2), .int (x), .int (nI dep)] [] (hp S) _
  refine k_aload_n eX0_own_0 rfl ?_
  refine k_aload_n eX0_own_1 rfl ?_
  refine GX0_51 eX0_own_2 rfl ?_
  refine k_topi (nI 7) hK ?_
  refine k_iload_n eX0_own_5 rfl ?_
  refine k_iload_n eX0_own_6 rfl ?_
  refine k_iload_n eX0_own_7 rfl ?_
  refine cV1 (M' := MX0_ask) eX0_own_8 mX0_54 wX0_ask vX0_ask ⟨_, _, _, rfl, rfl, rfl⟩ rfl (pX0_ask_7_7_2 (S := S) (n := n) (dep := dep) (nb := nb) hK hnb hran (by omega) (by omega) (x)) (by decide) (Nat.le_of_ble_eq_true rfl) ?_
  refine k_ireturn eX0_own_11 rfl rfl ?_
  exact ⟨rfl, rfl⟩
set_option maxHeartbeats 400000 in
theorem pX0_run_7_80 {S : k_S} {n dep : Nat} {nb : Int32} (hK : S.1 205 = nI 7) (hnb : S.1 204 = nb) (hran : S.1 203 = nI n) (hn : n + 6 ≤ 24) (hdep : dep + 4 ≤ 40) (x : Int32) : Sp 9 0 0 MX0_run [.ref 4, .int (nI 80), .int (x), .int (nI dep)] (hp S) (Rt (some (.int (((-((((x + nI 1) + nb) * nI 2))) + (((nI 2) ^^^ nb) * nI 3))))) (hp (trc S n [30, 10, 41, 1, 40, 11]))) := by
  refine Sp_of (by decide +kernel) (Nat.le_of_ble_eq_true rfl) ?_
  show AW none MX0_run 9 0 0 0 [.ref 4, .int (nI 80), .int (x), .int (nI dep)] [] (hp S) _
  refine k_iload_n eX0_run_0 rfl ?_
  refine k_look 260 eX0_run_1 (by decide) (off := 259) (by decide) (by decide) ?_
  refine k_aload_n eX0_run_260 rfl ?_
  refine k_bipush (v := nI 7) eX0_run_261 (by decide) ?_
  refine cS1 (M' := MX0_above) eX0_run_263 mX0_33 wX0_above sX0_above rfl (pX0_above (S := S) (k := 7) (by decide)) (by decide) (Nat.le_of_ble_eq_true rfl) ?_
  refine k_topi (nI 3) (by decide) ?_
  refine k_iconst (v := nI 1) eX0_run_266 (by decide) ?_
  refine k_iload_n eX0_run_267 rfl ?_
  refine k_iload_n eX0_run_268 rfl ?_
  refine cV1 (M' := MX0_ask) eX0_run_269 mX0_54 wX0_ask vX0_ask ⟨_, _, _, rfl, rfl, rfl⟩ rfl (pX0_ask_7_3_1 (S := S) (n := n) (dep := dep) (nb := nb) hK hnb hran (by omega) (by omega) (x)) (by decide) (Nat.le_of_ble_eq_true rfl) ?_
  refine k_aload_n eX0_run_272 rfl ?_
  refine k_iconst (v := nI 2) eX0_run_273 (by decide) ?_
  refine k_iconst (v := nI 2) eX0_run_274 (by decide) ?_
  refine k_iload_n eX0_run_275 rfl ?_
  refine cV1 (M' := MX0_own) eX0_run_276 mX0_72 wX0_own vX0_own ⟨_, _, _, rfl, rfl, rfl⟩ rfl (pX0_own_7_2 (S := (trc S (n) [30, 10, 41, 1])) (n := n + 4) (dep := dep) (nb := nb) (tK hK) (tN hnb) (tR hran) (by omega) (by omega) (nI 2)) (by decide) (Nat.le_of_ble_eq_true rfl) ?_
  refine k_iadd eX0_run_279 ?_
  refine k_ireturn eX0_run_280 rfl rfl ?_
  exact ⟨rfl, congrArg hp (trc_app [30, 10, 41, 1] S n [40, 11]).symm⟩
set_option maxHeartbeats 400000 in
theorem pX0_ask_7_7_1 {S : k_S} {n dep : Nat} {nb : Int32} (hK : S.1 205 = nI 7) (hnb : S.1 204 = nb) (hran : S.1 203 = nI n) (hn : n + 7 ≤ 24) (hdep : dep + 5 ≤ 40) (x : Int32) : Sp 10 0 0 MX0_ask [.ref 4, .int (nI 7), .int (nI 1), .int (x), .int (nI dep)] (hp S) (Rt (some (.int (((-((((x + nI 1) + nb) * nI 2))) + (((nI 2) ^^^ nb) * nI 3))))) (hp (trc S n [80, 30, 10, 41, 1, 40, 11]))) := by
  refine Sp_of (by decide +kernel) (Nat.le_of_ble_eq_true rfl) ?_
  show AW none MX0_ask 10 0 0 0 [.ref 4, .int (nI 7), .int (nI 1), .int (x), .int (nI dep), .null, .null, .null] [] (hp S) _
  refine k_iload eX0_ask_0 rfl ?_
  refine k_bipush (v := nI 40) eX0_ask_2 (by decide) ?_
  refine k_icmp_leN 9 eX0_ask_4 (by decide) (by omega) (by omega) (fun c_4 => ?_) (fun c_4 => by exfalso; omega)
  refine k_iload_n eX0_ask_9 rfl ?_
  refine k_istore (L2 := [_, _, _, _, _, _, _, _]) eX0_ask_10 (Nat.le_of_ble_eq_true rfl) rfl ?_
  refine k_iconst (v := nI 0) eX0_ask_12 (by decide) ?_
  refine k_istore (L2 := [_, _, _, _, _, _, _, _]) eX0_ask_13 (Nat.le_of_ble_eq_true rfl) rfl ?_
  refine k_iload eX0_ask_15 rfl ?_
  refine k_bipush (v := nI 8) eX0_ask_17 (by decide) ?_
  refine k_icmp_gtN 88 eX0_ask_19 (by decide) (by omega) (by omega) (fun c_19 => by exfalso; omega) (fun c_19 => ?_)
  refine k_iload eX0_ask_22 rfl ?_
  refine k_if_ltN 88 eX0_ask_24 (by decide) (by omega) ?_
  refine k_iload eX0_ask_27 rfl ?_
  refine k_iload_n eX0_ask_29 rfl ?_
  refine cS1 (M' := MX0_bodyOf) eX0_ask_30 mX0_64 wX0_bodyOf sX0_bodyOf rfl (pX0_bodyOf (S := S) (k := 7) (s := 1) (by decide) (by decide)) (by decide) (Nat.le_of_ble_eq_true rfl) ?_
  refine k_topi (nI 80) (by decide) ?_
  refine k_istore (L2 := [_, _, _, _, _, _, _, _]) eX0_ask_33 (Nat.le_of_ble_eq_true rfl) rfl ?_
  refine k_iload eX0_ask_35 rfl ?_
  refine k_if_eqN 75 eX0_ask_37 (by decide) (by omega) (fun c_37 => by exfalso; omega) (fun c_37 => ?_)
  refine k_aload_n eX0_ask_40 rfl ?_
  refine GX0_19 eX0_ask_41 rfl ?_
  refine k_aload_n eX0_ask_44 rfl ?_
  refine GX0_22 eX0_ask_45 rfl ?_
  refine k_topi (nI n) hran ?_
  refine k_iload eX0_ask_48 rfl ?_
  refine cN0 (M' := MX11_write) eX0_ask_50 mX0_25 wX11_write sX11_write rfl (pX11_writeN (j := n) (v := nI 80) (ar6 _) (by omega) (by decide) (as6 _ _)) (by decide) (Nat.le_of_ble_eq_true rfl) ?_
  refine k_aload_n eX0_ask_53 rfl ?_
  refine k_dup eX0_ask_54 rfl ?_
  refine GX0_22 eX0_ask_55 rfl ?_
  refine k_topi (nI n) hran ?_
  refine k_iconst (v := nI 1) eX0_ask_58 (by decide) ?_
  refine k_iaddN eX0_ask_59 ?_
  refine PX0_22 eX0_ask_60 rfl ?_
  refine k_heap (h2 := hp (trc1 S n 80)) rfl ?_
  refine k_aload_n eX0_ask_63 rfl ?_
  refine k_iload eX0_ask_64 rfl ?_
  refine k_iload_n eX0_ask_66 rfl ?_
  refine k_iload eX0_ask_67 rfl ?_
  refine k_iconst (v := nI 1) eX0_ask_69 (by decide) ?_
  refine k_iaddN eX0_ask_70 ?_
  refine cV1 (M' := MX0_run) eX0_ask_71 mX0_68 wX0_run vX0_run ⟨_, _, _, rfl, rfl, rfl⟩ rfl (pX0_run_7_80 (S := (trc1 S n 80)) (n := n + 1) (dep := (dep + 1)) (nb := nb) (t1K hK) (t1N hnb) rfl (by omega) (by omega) (x)) (by decide) (Nat.le_of_ble_eq_true rfl) ?_
  refine k_ireturn eX0_ask_74 rfl rfl ?_
  exact ⟨rfl, congrArg hp (trc_cons S n 80 [30, 10, 41, 1, 40, 11]).symm⟩
set_option maxHeartbeats 400000 in
theorem pX0_own_7_1 {S : k_S} {n dep : Nat} {nb : Int32} (hK : S.1 205 = nI 7) (hnb : S.1 204 = nb) (hran : S.1 203 = nI n) (hn : n + 7 ≤ 24) (hdep : dep + 5 ≤ 40) (x : Int32) : Sp 11 0 0 MX0_own [.ref 4, .int (nI 1), .int (x), .int (nI dep)] (hp S) (Rt (some (.int (((-((((x + nI 1) + nb) * nI 2))) + (((nI 2) ^^^ nb) * nI 3))))) (hp (trc S n [80, 30, 10, 41, 1, 40, 11]))) := by
  refine Sp_of (by decide +kernel) (Nat.le_of_ble_eq_true rfl) ?_
  show AW none MX0_own 11 0 0 0 [.ref 4, .int (nI 1), .int (x), .int (nI dep)] [] (hp S) _
  refine k_aload_n eX0_own_0 rfl ?_
  refine k_aload_n eX0_own_1 rfl ?_
  refine GX0_51 eX0_own_2 rfl ?_
  refine k_topi (nI 7) hK ?_
  refine k_iload_n eX0_own_5 rfl ?_
  refine k_iload_n eX0_own_6 rfl ?_
  refine k_iload_n eX0_own_7 rfl ?_
  refine cV1 (M' := MX0_ask) eX0_own_8 mX0_54 wX0_ask vX0_ask ⟨_, _, _, rfl, rfl, rfl⟩ rfl (pX0_ask_7_7_1 (S := S) (n := n) (dep := dep) (nb := nb) hK hnb hran (by omega) (by omega) (x)) (by decide) (Nat.le_of_ble_eq_true rfl) ?_
  refine k_ireturn eX0_own_11 rfl rfl ?_
  exact ⟨rfl, rfl⟩
set_option maxHeartbeats 400000 in
theorem pX0_run_7_2 {S : k_S} {n dep : Nat} {nb : Int32} (hK : S.1 205 = nI 7) (hnb : S.1 204 = nb) (hran : S.1 203 = nI n) (hn : n + 9 ≤ 24) (hdep : dep + 5 ≤ 40) (x : Int32) : Sp 12 0 0 MX0_run [.ref 4, .int (nI 2), .int (x), .int (nI dep)] (hp S) (Rt (some (.int ((((-((((x + nI 1) + nb) * nI 2))) + (((nI 2) ^^^ nb) * nI 3)) - (((nI 1) ^^^ nb) * nI 3))))) (hp (trc S n [80, 30, 10, 41, 1, 40, 11, 40, 11]))) := by
  refine Sp_of (by decide +kernel) (Nat.le_of_ble_eq_true rfl) ?_
  show AW none MX0_run 12 0 0 0 [.ref 4, .int (nI 2), .int (x), .int (nI dep)] [] (hp S) _
  refine k_iload_n eX0_run_0 rfl ?_
  refine k_look 123 eX0_run_1 (by decide) (off := 122) (by decide) (by decide) ?_
  refine k_aload_n eX0_run_123 rfl ?_
  refine k_iconst (v := nI 1) eX0_run_124 (by decide) ?_
  refine k_iload_n eX0_run_125 rfl ?_
  refine k_iload_n eX0_run_126 rfl ?_
  refine cV1 (M' := MX0_own) eX0_run_127 mX0_72 wX0_own vX0_own ⟨_, _, _, rfl, rfl, rfl⟩ rfl (pX0_own_7_1 (S := S) (n := n) (dep := dep) (nb := nb) hK hnb hran (by omega) (by omega) (x)) (by decide) (Nat.le_of_ble_eq_true rfl) ?_
  refine k_aload_n eX0_run_130 rfl ?_
  refine k_iconst (v := nI 2) eX0_run_131 (by decide) ?_
  refine k_iconst (v := nI 1) eX0_run_132 (by decide) ?_
  refine k_iload_n eX0_run_133 rfl ?_
  refine cV1 (M' := MX0_own) eX0_run_134 mX0_72 wX0_own vX0_own ⟨_, _, _, rfl, rfl, rfl⟩ rfl (pX0_own_7_2 (S := (trc S (n) [80, 30, 10, 41, 1, 40, 11])) (n := n + 7) (dep := dep) (nb := nb) (tK hK) (tN hnb) (tR hran) (by omega) (by omega) (nI 1)) (by decide) (Nat.le_of_ble_eq_true rfl) ?_
  refine k_isub eX0_run_137 ?_
  refine k_ireturn eX0_run_138 rfl rfl ?_
  exact ⟨rfl, congrArg hp (trc_app [80, 30, 10, 41, 1, 40, 11] S n [40, 11]).symm⟩
set_option maxHeartbeats 400000 in
theorem pX0_ask_7_3_3 {S : k_S} {n dep : Nat} {nb : Int32} (hK : S.1 205 = nI 7) (hnb : S.1 204 = nb) (hran : S.1 203 = nI n) (hn : n + 10 ≤ 24) (hdep : dep + 6 ≤ 40) (x : Int32) : Sp 13 0 0 MX0_ask [.ref 4, .int (nI 3), .int (nI 3), .int (x), .int (nI dep)] (hp S) (Rt (some (.int ((((-((((x + nI 1) + nb) * nI 2))) + (((nI 2) ^^^ nb) * nI 3)) - (((nI 1) ^^^ nb) * nI 3))))) (hp (trc S n [2, 80, 30, 10, 41, 1, 40, 11, 40, 11]))) := by
  refine Sp_of (by decide +kernel) (Nat.le_of_ble_eq_true rfl) ?_
  show AW none MX0_ask 13 0 0 0 [.ref 4, .int (nI 3), .int (nI 3), .int (x), .int (nI dep), .null, .null, .null] [] (hp S) _
  refine k_iload eX0_ask_0 rfl ?_
  refine k_bipush (v := nI 40) eX0_ask_2 (by decide) ?_
  refine k_icmp_leN 9 eX0_ask_4 (by decide) (by omega) (by omega) (fun c_4 => ?_) (fun c_4 => by exfalso; omega)
  refine k_iload_n eX0_ask_9 rfl ?_
  refine k_istore (L2 := [_, _, _, _, _, _, _, _]) eX0_ask_10 (Nat.le_of_ble_eq_true rfl) rfl ?_
  refine k_iconst (v := nI 0) eX0_ask_12 (by decide) ?_
  refine k_istore (L2 := [_, _, _, _, _, _, _, _]) eX0_ask_13 (Nat.le_of_ble_eq_true rfl) rfl ?_
  refine k_iload eX0_ask_15 rfl ?_
  refine k_bipush (v := nI 8) eX0_ask_17 (by decide) ?_
  refine k_icmp_gtN 88 eX0_ask_19 (by decide) (by omega) (by omega) (fun c_19 => by exfalso; omega) (fun c_19 => ?_)
  refine k_iload eX0_ask_22 rfl ?_
  refine k_if_ltN 88 eX0_ask_24 (by decide) (by omega) ?_
  refine k_iload eX0_ask_27 rfl ?_
  refine k_iload_n eX0_ask_29 rfl ?_
  refine cS1 (M' := MX0_bodyOf) eX0_ask_30 mX0_64 wX0_bodyOf sX0_bodyOf rfl (pX0_bodyOf (S := S) (k := 3) (s := 3) (by decide) (by decide)) (by decide) (Nat.le_of_ble_eq_true rfl) ?_
  refine k_topi (nI 0) (by decide) ?_
  refine k_istore (L2 := [_, _, _, _, _, _, _, _]) eX0_ask_33 (Nat.le_of_ble_eq_true rfl) rfl ?_
  refine k_iload eX0_ask_35 rfl ?_
  refine k_if_eqN 75 eX0_ask_37 (by decide) (by omega) (fun c_37 => ?_) (fun c_37 => by exfalso; omega)
  refine k_iload eX0_ask_75 rfl ?_
  refine cS1 (M' := MX0_above) eX0_ask_77 mX0_33 wX0_above sX0_above rfl (pX0_above (S := S) (k := 3) (by decide)) (by decide) (Nat.le_of_ble_eq_true rfl) ?_
  refine k_topi (nI 2) (by decide) ?_
  refine k_istore (L2 := [_, _, _, _, _, _, _, _]) eX0_ask_80 (Nat.le_of_ble_eq_true rfl) rfl ?_
  refine k_iincN (g := 1) (a := 0) (L2 := [_, _, _, _, _, _, _, _]) eX0_ask_82 (Nat.le_of_ble_eq_true rfl) rfl rfl ?_
  refine k_goto 15 eX0_ask_85 (by decide) ?_
  refine k_iload eX0_ask_15 rfl ?_
  refine k_bipush (v := nI 8) eX0_ask_17 (by decide) ?_
  refine k_icmp_gtN 88 eX0_ask_19 (by decide) (by omega) (by omega) (fun c_19 => by exfalso; omega) (fun c_19 => ?_)
  refine k_iload eX0_ask_22 rfl ?_
  refine k_if_ltN 88 eX0_ask_24 (by decide) (by omega) ?_
  refine k_iload eX0_ask_27 rfl ?_
  refine k_iload_n eX0_ask_29 rfl ?_
  refine cS1 (M' := MX0_bodyOf) eX0_ask_30 mX0_64 wX0_bodyOf sX0_bodyOf rfl (pX0_bodyOf (S := S) (k := 2) (s := 3) (by decide) (by decide)) (by decide) (Nat.le_of_ble_eq_true rfl) ?_
  refine k_topi (nI 0) (by decide) ?_
  refine k_istore (L2 := [_, _, _, _, _, _, _, _]) eX0_ask_33 (Nat.le_of_ble_eq_true rfl) rfl ?_
  refine k_iload eX0_ask_35 rfl ?_
  refine k_if_eqN 75 eX0_ask_37 (by decide) (by omega) (fun c_37 => ?_) (fun c_37 => by exfalso; omega)
  refine k_iload eX0_ask_75 rfl ?_
  refine cS1 (M' := MX0_above) eX0_ask_77 mX0_33 wX0_above sX0_above rfl (pX0_above (S := S) (k := 2) (by decide)) (by decide) (Nat.le_of_ble_eq_true rfl) ?_
  refine k_topi (nI 0) (by decide) ?_
  refine k_istore (L2 := [_, _, _, _, _, _, _, _]) eX0_ask_80 (Nat.le_of_ble_eq_true rfl) rfl ?_
  refine k_iincN (g := 1) (a := 1) (L2 := [_, _, _, _, _, _, _, _]) eX0_ask_82 (Nat.le_of_ble_eq_true rfl) rfl rfl ?_
  refine k_goto 15 eX0_ask_85 (by decide) ?_
  refine k_iload eX0_ask_15 rfl ?_
  refine k_bipush (v := nI 8) eX0_ask_17 (by decide) ?_
  refine k_icmp_gtN 88 eX0_ask_19 (by decide) (by omega) (by omega) (fun c_19 => by exfalso; omega) (fun c_19 => ?_)
  refine k_iload eX0_ask_22 rfl ?_
  refine k_if_ltN 88 eX0_ask_24 (by decide) (by omega) ?_
  refine k_iload eX0_ask_27 rfl ?_
  refine k_iload_n eX0_ask_29 rfl ?_
  refine cS1 (M' := MX0_bodyOf) eX0_ask_30 mX0_64 wX0_bodyOf sX0_bodyOf rfl (pX0_bodyOf (S := S) (k := 0) (s := 3) (by decide) (by decide)) (by decide) (Nat.le_of_ble_eq_true rfl) ?_
  refine k_topi (nI 0) (by decide) ?_
  refine k_istore (L2 := [_, _, _, _, _, _, _, _]) eX0_ask_33 (Nat.le_of_ble_eq_true rfl) rfl ?_
  refine k_iload eX0_ask_35 rfl ?_
  refine k_if_eqN 75 eX0_ask_37 (by decide) (by omega) (fun c_37 => ?_) (fun c_37 => by exfalso; omega)
  refine k_iload eX0_ask_75 rfl ?_
  refine cS1 (M' := MX0_above) eX0_ask_77 mX0_33 wX0_above sX0_above rfl (pX0_above (S := S) (k := 0) (by decide)) (by decide) (Nat.le_of_ble_eq_true rfl) ?_
  refine k_topi (nI 8) (by decide) ?_
  refine k_istore (L2 := [_, _, _, _, _, _, _, _]) eX0_ask_80 (Nat.le_of_ble_eq_true rfl) rfl ?_
  refine k_iincN (g := 1) (a := 2) (L2 := [_, _, _, _, _, _, _, _]) eX0_ask_82 (Nat.le_of_ble_eq_true rfl) rfl rfl ?_
  refine k_goto 15 eX0_ask_85 (by decide) ?_
  refine k_iload eX0_ask_15 rfl ?_
  refine k_bipush (v := nI 8) eX0_ask_17 (by decide) ?_
  refine k_icmp_gtN 88 eX0_ask_19 (by decide) (by omega) (by omega) (fun c_19 => by exfalso; omega) (fun c_19 => ?_)
  refine k_iload eX0_ask_22 rfl ?_
  refine k_if_ltN 88 eX0_ask_24 (by decide) (by omega) ?_
  refine k_iload eX0_ask_27 rfl ?_
  refine k_iload_n eX0_ask_29 rfl ?_
  refine cS1 (M' := MX0_bodyOf) eX0_ask_30 mX0_64 wX0_bodyOf sX0_bodyOf rfl (pX0_bodyOf (S := S) (k := 8) (s := 3) (by decide) (by decide)) (by decide) (Nat.le_of_ble_eq_true rfl) ?_
  refine k_topi (nI 2) (by decide) ?_
  refine k_istore (L2 := [_, _, _, _, _, _, _, _]) eX0_ask_33 (Nat.le_of_ble_eq_true rfl) rfl ?_
  refine k_iload eX0_ask_35 rfl ?_
  refine k_if_eqN 75 eX0_ask_37 (by decide) (by omega) (fun c_37 => by exfalso; omega) (fun c_37 => ?_)
  refine k_aload_n eX0_ask_40 rfl ?_
  refine GX0_19 eX0_ask_41 rfl ?_
  refine k_aload_n eX0_ask_44 rfl ?_
  refine GX0_22 eX0_ask_45 rfl ?_
  refine k_topi (nI n) hran ?_
  refine k_iload eX0_ask_48 rfl ?_
  refine cN0 (M' := MX11_write) eX0_ask_50 mX0_25 wX11_write sX11_write rfl (pX11_writeN (j := n) (v := nI 2) (ar6 _) (by omega) (by decide) (as6 _ _)) (by decide) (Nat.le_of_ble_eq_true rfl) ?_
  refine k_aload_n eX0_ask_53 rfl ?_
  refine k_dup eX0_ask_54 rfl ?_
  refine GX0_22 eX0_ask_55 rfl ?_
  refine k_topi (nI n) hran ?_
  refine k_iconst (v := nI 1) eX0_ask_58 (by decide) ?_
  refine k_iaddN eX0_ask_59 ?_
  refine PX0_22 eX0_ask_60 rfl ?_
  refine k_heap (h2 := hp (trc1 S n 2)) rfl ?_
  refine k_aload_n eX0_ask_63 rfl ?_
  refine k_iload eX0_ask_64 rfl ?_
  refine k_iload_n eX0_ask_66 rfl ?_
  refine k_iload eX0_ask_67 rfl ?_
  refine k_iconst (v := nI 1) eX0_ask_69 (by decide) ?_
  refine k_iaddN eX0_ask_70 ?_
  refine cV1 (M' := MX0_run) eX0_ask_71 mX0_68 wX0_run vX0_run ⟨_, _, _, rfl, rfl, rfl⟩ rfl (pX0_run_7_2 (S := (trc1 S n 2)) (n := n + 1) (dep := (dep + 1)) (nb := nb) (t1K hK) (t1N hnb) rfl (by omega) (by omega) (x)) (by decide) (Nat.le_of_ble_eq_true rfl) ?_
  refine k_ireturn eX0_ask_74 rfl rfl ?_
  exact ⟨rfl, congrArg hp (trc_cons S n 2 [80, 30, 10, 41, 1, 40, 11, 40, 11]).symm⟩
set_option maxHeartbeats 400000 in
theorem pX0_run_7_81 {S : k_S} {n dep : Nat} {nb : Int32} (hK : S.1 205 = nI 7) (hnb : S.1 204 = nb) (hran : S.1 203 = nI n) (hn : n + 10 ≤ 24) (hdep : dep + 6 ≤ 40) (x : Int32) : Sp 14 0 0 MX0_run [.ref 4, .int (nI 81), .int (x), .int (nI dep)] (hp S) (Rt (some (.int (((((-((((x + nI 1) + nb) * nI 2))) + (((nI 2) ^^^ nb) * nI 3)) - (((nI 1) ^^^ nb) * nI 3)) - nI 1)))) (hp (trc S n [2, 80, 30, 10, 41, 1, 40, 11, 40, 11]))) := by
  refine Sp_of (by decide +kernel) (Nat.le_of_ble_eq_true rfl) ?_
  show AW none MX0_run 14 0 0 0 [.ref 4, .int (nI 81), .int (x), .int (nI dep)] [] (hp S) _
  refine k_iload_n eX0_run_0 rfl ?_
  refine k_look 281 eX0_run_1 (by decide) (off := 280) (by decide) (by decide) ?_
  refine k_aload_n eX0_run_281 rfl ?_
  refine k_bipush (v := nI 7) eX0_run_282 (by decide) ?_
  refine cS1 (M' := MX0_above) eX0_run_284 mX0_33 wX0_above sX0_above rfl (pX0_above (S := S) (k := 7) (by decide)) (by decide) (Nat.le_of_ble_eq_true rfl) ?_
  refine k_topi (nI 3) (by decide) ?_
  refine k_iconst (v := nI 3) eX0_run_287 (by decide) ?_
  refine k_iload_n eX0_run_288 rfl ?_
  refine k_iload_n eX0_run_289 rfl ?_
  refine cV1 (M' := MX0_ask) eX0_run_290 mX0_54 wX0_ask vX0_ask ⟨_, _, _, rfl, rfl, rfl⟩ rfl (pX0_ask_7_3_3 (S := S) (n := n) (dep := dep) (nb := nb) hK hnb hran (by omega) (by omega) (x)) (by decide) (Nat.le_of_ble_eq_true rfl) ?_
  refine k_iconst (v := nI 1) eX0_run_293 (by decide) ?_
  refine k_isub eX0_run_294 ?_
  refine k_ireturn eX0_run_295 rfl rfl ?_
  exact ⟨rfl, rfl⟩
set_option maxHeartbeats 400000 in
theorem pX0_ask_7_7_3 {S : k_S} {n dep : Nat} {nb : Int32} (hK : S.1 205 = nI 7) (hnb : S.1 204 = nb) (hran : S.1 203 = nI n) (hn : n + 11 ≤ 24) (hdep : dep + 7 ≤ 40) (x : Int32) : Sp 15 0 0 MX0_ask [.ref 4, .int (nI 7), .int (nI 3), .int (x), .int (nI dep)] (hp S) (Rt (some (.int (((((-((((x + nI 1) + nb) * nI 2))) + (((nI 2) ^^^ nb) * nI 3)) - (((nI 1) ^^^ nb) * nI 3)) - nI 1)))) (hp (trc S n [81, 2, 80, 30, 10, 41, 1, 40, 11, 40, 11]))) := by
  refine Sp_of (by decide +kernel) (Nat.le_of_ble_eq_true rfl) ?_
  show AW none MX0_ask 15 0 0 0 [.ref 4, .int (nI 7), .int (nI 3), .int (x), .int (nI dep), .null, .null, .null] [] (hp S) _
  refine k_iload eX0_ask_0 rfl ?_
  refine k_bipush (v := nI 40) eX0_ask_2 (by decide) ?_
  refine k_icmp_leN 9 eX0_ask_4 (by decide) (by omega) (by omega) (fun c_4 => ?_) (fun c_4 => by exfalso; omega)
  refine k_iload_n eX0_ask_9 rfl ?_
  refine k_istore (L2 := [_, _, _, _, _, _, _, _]) eX0_ask_10 (Nat.le_of_ble_eq_true rfl) rfl ?_
  refine k_iconst (v := nI 0) eX0_ask_12 (by decide) ?_
  refine k_istore (L2 := [_, _, _, _, _, _, _, _]) eX0_ask_13 (Nat.le_of_ble_eq_true rfl) rfl ?_
  refine k_iload eX0_ask_15 rfl ?_
  refine k_bipush (v := nI 8) eX0_ask_17 (by decide) ?_
  refine k_icmp_gtN 88 eX0_ask_19 (by decide) (by omega) (by omega) (fun c_19 => by exfalso; omega) (fun c_19 => ?_)
  refine k_iload eX0_ask_22 rfl ?_
  refine k_if_ltN 88 eX0_ask_24 (by decide) (by omega) ?_
  refine k_iload eX0_ask_27 rfl ?_
  refine k_iload_n eX0_ask_29 rfl ?_
  refine cS1 (M' := MX0_bodyOf) eX0_ask_30 mX0_64 wX0_bodyOf sX0_bodyOf rfl (pX0_bodyOf (S := S) (k := 7) (s := 3) (by decide) (by decide)) (by decide) (Nat.le_of_ble_eq_true rfl) ?_
  refine k_topi (nI 81) (by decide) ?_
  refine k_istore (L2 := [_, _, _, _, _, _, _, _]) eX0_ask_33 (Nat.le_of_ble_eq_true rfl) rfl ?_
  refine k_iload eX0_ask_35 rfl ?_
  refine k_if_eqN 75 eX0_ask_37 (by decide) (by omega) (fun c_37 => by exfalso; omega) (fun c_37 => ?_)
  refine k_aload_n eX0_ask_40 rfl ?_
  refine GX0_19 eX0_ask_41 rfl ?_
  refine k_aload_n eX0_ask_44 rfl ?_
  refine GX0_22 eX0_ask_45 rfl ?_
  refine k_topi (nI n) hran ?_
  refine k_iload eX0_ask_48 rfl ?_
  refine cN0 (M' := MX11_write) eX0_ask_50 mX0_25 wX11_write sX11_write rfl (pX11_writeN (j := n) (v := nI 81) (ar6 _) (by omega) (by decide) (as6 _ _)) (by decide) (Nat.le_of_ble_eq_true rfl) ?_
  refine k_aload_n eX0_ask_53 rfl ?_
  refine k_dup eX0_ask_54 rfl ?_
  refine GX0_22 eX0_ask_55 rfl ?_
  refine k_topi (nI n) hran ?_
  refine k_iconst (v := nI 1) eX0_ask_58 (by decide) ?_
  refine k_iaddN eX0_ask_59 ?_
  refine PX0_22 eX0_ask_60 rfl ?_
  refine k_heap (h2 := hp (trc1 S n 81)) rfl ?_
  refine k_aload_n eX0_ask_63 rfl ?_
  refine k_iload eX0_ask_64 rfl ?_
  refine k_iload_n eX0_ask_66 rfl ?_
  refine k_iload eX0_ask_67 rfl ?_
  refine k_iconst (v := nI 1) eX0_ask_69 (by decide) ?_
  refine k_iaddN eX0_ask_70 ?_
  refine cV1 (M' := MX0_run) eX0_ask_71 mX0_68 wX0_run vX0_run ⟨_, _, _, rfl, rfl, rfl⟩ rfl (pX0_run_7_81 (S := (trc1 S n 81)) (n := n + 1) (dep := (dep + 1)) (nb := nb) (t1K hK) (t1N hnb) rfl (by omega) (by omega) (x)) (by decide) (Nat.le_of_ble_eq_true rfl) ?_
  refine k_ireturn eX0_ask_74 rfl rfl ?_
  exact ⟨rfl, congrArg hp (trc_cons S n 81 [2, 80, 30, 10, 41, 1, 40, 11, 40, 11]).symm⟩
def acV : Nat → Nat → Int32 → Int32 → Int32
  | 0, 0, x, nb => (x + nb)
  | 0, 1, x, nb => ((x + nb) * nI 2)
  | 0, 2, x, nb => (x ^^^ nb)
  | 0, 3, x, nb => (((x + nb) * nI 2) - ((nI 1) ^^^ nb))
  | 1, 0, x, nb => ((x + nb) + nI 3)
  | 1, 1, x, nb => (((x + nb) + nI 3) * nI 2)
  | 1, 2, x, nb => (x ^^^ nb)
  | 1, 3, x, nb => ((((x + nb) + nI 3) * nI 2) - ((nI 1) ^^^ nb))
  | 2, 0, x, nb => (x + nb)
  | 2, 1, x, nb => (-(((x + nb) * nI 2)))
  | 2, 2, x, nb => (x ^^^ nb)
  | 2, 3, x, nb => ((-(((x + nb) * nI 2))) - ((nI 1) ^^^ nb))
  | 3, 0, x, nb => ((x + nI 1) + nb)
  | 3, 1, x, nb => (-((((x + nI 1) + nb) * nI 2)))
  | 3, 2, x, nb => ((x ^^^ nb) * nI 3)
  | 3, 3, x, nb => ((-((((x + nI 1) + nb) * nI 2))) - (((nI 1) ^^^ nb) * nI 3))
  | 4, 0, x, nb => (x + nb)
  | 4, 1, x, nb => ((x + nb) * nI 2)
  | 4, 2, x, nb => ((x ^^^ nb) - ((nI 2) + nb))
  | 4, 3, x, nb => (((x + nb) * nI 2) - (((nI 1) ^^^ nb) - ((nI 2) + nb)))
  | 5, 0, x, nb => ((x + nb) + nI 3)
  | 5, 1, x, nb => (((x + nb) + nI 3) * nI 2)
  | 5, 2, x, nb => (x ^^^ nb)
  | 5, 3, x, nb => (((((x + nb) + nI 3) * nI 2) - ((nI 1) ^^^ nb)) ^^^ nI 5)
  | 6, 0, x, nb => ((x + nb) * nI 2)
  | 6, 1, x, nb => (((x + nb) * nI 2) * nI 2)
  | 6, 2, x, nb => (x ^^^ nb)
  | 6, 3, x, nb => ((((x + nb) * nI 2) * nI 2) - ((nI 1) ^^^ nb))
  | 7, 0, x, nb => ((x + nI 1) + nb)
  | 7, 1, x, nb => ((-((((x + nI 1) + nb) * nI 2))) + (((nI 2) ^^^ nb) * nI 3))
  | 7, 2, x, nb => ((x ^^^ nb) * nI 3)
  | 7, 3, x, nb => ((((-((((x + nI 1) + nb) * nI 2))) + (((nI 2) ^^^ nb) * nI 3)) - (((nI 1) ^^^ nb) * nI 3)) - nI 1)
  | _, _, _, _ => nI 0
def acT : Nat → Nat → List Nat
  | 0, 0 => [1]
  | 0, 1 => [10, 1]
  | 0, 2 => [11]
  | 0, 3 => [2, 10, 1, 11]
  | 1, 0 => [20, 1]
  | 1, 1 => [10, 20, 1]
  | 1, 2 => [11]
  | 1, 3 => [2, 10, 20, 1, 11]
  | 2, 0 => [1]
  | 2, 1 => [30, 10, 1]
  | 2, 2 => [11]
  | 2, 3 => [2, 30, 10, 1, 11]
  | 3, 0 => [41, 1]
  | 3, 1 => [30, 10, 41, 1]
  | 3, 2 => [40, 11]
  | 3, 3 => [2, 30, 10, 41, 1, 40, 11]
  | 4, 0 => [1]
  | 4, 1 => [10, 1]
  | 4, 2 => [50, 11, 1]
  | 4, 3 => [2, 10, 1, 50, 11, 1]
  | 5, 0 => [20, 1]
  | 5, 1 => [10, 20, 1]
  | 5, 2 => [11]
  | 5, 3 => [60, 2, 10, 20, 1, 11]
  | 6, 0 => [70, 1]
  | 6, 1 => [10, 70, 1]
  | 6, 2 => [11]
  | 6, 3 => [2, 10, 70, 1, 11]
  | 7, 0 => [41, 1]
  | 7, 1 => [80, 30, 10, 41, 1, 40, 11]
  | 7, 2 => [40, 11]
  | 7, 3 => [81, 2, 80, 30, 10, 41, 1, 40, 11, 40, 11]
  | _, _ => []
def acS (S : k_S) (p K s : Nat) : k_S := trc (si (si (si S 203 (nI 0)) 204 (nI p)) 205 (nI K)) 0 (acT K s)
set_option maxHeartbeats 400000 in
theorem pX0_begin_0_0 {S : k_S} {p kn : Nat} (hpk : S.1 201 = nI kn) (hpp : p < kn) (hkn : kn ≤ 50) (hk : S.2.1 5 p = nI 0) (x : Int32) : Sp 16 0 0 MX0_begin [.ref 4, .int (nI p), .int (nI 0), .int (x)] (hp S) (Rt (some (.int (acV 0 0 x (nI p)))) (hp (acS S p 0 0))) := by
  refine Sp_of (by decide +kernel) (Nat.le_of_ble_eq_true rfl) ?_
  show AW none MX0_begin 16 0 0 0 [.ref 4, .int (nI p), .int (nI 0), .int (x)] [] (hp S) _
  refine k_aload_n eX0_begin_0 rfl ?_
  refine k_iconst (v := nI 0) eX0_begin_1 (by decide) ?_
  refine PX0_22 eX0_begin_2 rfl ?_
  refine k_aload_n eX0_begin_5 rfl ?_
  refine k_iload_n eX0_begin_6 rfl ?_
  refine cV1 (M' := MX0_has) eX0_begin_7 mX0_37 wX0_has vX0_has ⟨_, _, _, rfl, rfl, rfl⟩ rfl (pX0_has (S := (si S 203 (nI 0))) (nI p)) (by decide) (Nat.le_of_ble_eq_true rfl) ?_
  refine k_ifb_eq 22 eX0_begin_10 (by decide) (fun c_10 => by exact absurd ⟨nI_pos' (by omega), by show nI p < S.1 201; rw [hpk]; exact nI_lt hpp (by omega)⟩ c_10) (fun c_10 => ?_)
  refine k_iload_n eX0_begin_13 rfl ?_
  refine k_iconst (v := nI 0) eX0_begin_14 (by decide) ?_
  refine k_iconst (v := nI 3) eX0_begin_15 (by decide) ?_
  refine cN1 (M' := MX11_within) eX0_begin_16 mX0_41 wX11_within sX11_within rfl (pX11_within (nI 0) (nI 0) (nI 3)) (by decide) (Nat.le_of_ble_eq_true rfl) ?_
  refine k_ifb_ne 24 eX0_begin_19 (by decide) (fun c_19 => ?_) (fun c_19 => by exact absurd ⟨by decide, by decide⟩ c_19)
  refine k_aload_n eX0_begin_24 rfl ?_
  refine k_iload_n eX0_begin_25 rfl ?_
  refine PX0_45 eX0_begin_26 rfl ?_
  refine k_aload_n eX0_begin_29 rfl ?_
  refine k_aload_n eX0_begin_30 rfl ?_
  refine k_iload_n eX0_begin_31 rfl ?_
  refine cV1 (M' := MX0_kindOf) eX0_begin_32 mX0_48 wX0_kindOf vX0_kindOf ⟨_, _, _, rfl, rfl, rfl⟩ rfl (pX0_kindOf (S := (si (si S 203 (nI 0)) 204 (nI p))) (j := p) (by omega)) (by decide) (Nat.le_of_ble_eq_true rfl) ?_
  refine k_topi (nI 0) hk ?_
  refine PX0_51 eX0_begin_35 rfl ?_
  refine k_aload_n eX0_begin_38 rfl ?_
  refine k_aload_n eX0_begin_39 rfl ?_
  refine GX0_51 eX0_begin_40 rfl ?_
  refine k_topi (nI 0) rfl ?_
  refine k_iload_n eX0_begin_43 rfl ?_
  refine k_iload_n eX0_begin_44 rfl ?_
  refine k_iconst (v := nI 0) eX0_begin_45 (by decide) ?_
  refine cV1 (M' := MX0_ask) eX0_begin_46 mX0_54 wX0_ask vX0_ask ⟨_, _, _, rfl, rfl, rfl⟩ rfl (pX0_ask_0_0_0 (S := (si (si (si S 203 (nI 0)) 204 (nI p)) 205 (nI 0))) (n := 0) (dep := 0) (nb := nI p) rfl rfl rfl (by decide) (by decide) x) (by decide) (Nat.le_of_ble_eq_true rfl) ?_
  refine k_ireturn eX0_begin_49 rfl rfl ?_
  exact ⟨rfl, rfl⟩
set_option maxHeartbeats 400000 in
theorem pX0_begin_0_1 {S : k_S} {p kn : Nat} (hpk : S.1 201 = nI kn) (hpp : p < kn) (hkn : kn ≤ 50) (hk : S.2.1 5 p = nI 0) (x : Int32) : Sp 16 0 0 MX0_begin [.ref 4, .int (nI p), .int (nI 1), .int (x)] (hp S) (Rt (some (.int (acV 0 1 x (nI p)))) (hp (acS S p 0 1))) := by
  refine Sp_of (by decide +kernel) (Nat.le_of_ble_eq_true rfl) ?_
  show AW none MX0_begin 16 0 0 0 [.ref 4, .int (nI p), .int (nI 1), .int (x)] [] (hp S) _
  refine k_aload_n eX0_begin_0 rfl ?_
  refine k_iconst (v := nI 0) eX0_begin_1 (by decide) ?_
  refine PX0_22 eX0_begin_2 rfl ?_
  refine k_aload_n eX0_begin_5 rfl ?_
  refine k_iload_n eX0_begin_6 rfl ?_
  refine cV1 (M' := MX0_has) eX0_begin_7 mX0_37 wX0_has vX0_has ⟨_, _, _, rfl, rfl, rfl⟩ rfl (pX0_has (S := (si S 203 (nI 0))) (nI p)) (by decide) (Nat.le_of_ble_eq_true rfl) ?_
  refine k_ifb_eq 22 eX0_begin_10 (by decide) (fun c_10 => by exact absurd ⟨nI_pos' (by omega), by show nI p < S.1 201; rw [hpk]; exact nI_lt hpp (by omega)⟩ c_10) (fun c_10 => ?_)
  refine k_iload_n eX0_begin_13 rfl ?_
  refine k_iconst (v := nI 0) eX0_begin_14 (by decide) ?_
  refine k_iconst (v := nI 3) eX0_begin_15 (by decide) ?_
  refine cN1 (M' := MX11_within) eX0_begin_16 mX0_41 wX11_within sX11_within rfl (pX11_within (nI 1) (nI 0) (nI 3)) (by decide) (Nat.le_of_ble_eq_true rfl) ?_
  refine k_ifb_ne 24 eX0_begin_19 (by decide) (fun c_19 => ?_) (fun c_19 => by exact absurd ⟨by decide, by decide⟩ c_19)
  refine k_aload_n eX0_begin_24 rfl ?_
  refine k_iload_n eX0_begin_25 rfl ?_
  refine PX0_45 eX0_begin_26 rfl ?_
  refine k_aload_n eX0_begin_29 rfl ?_
  refine k_aload_n eX0_begin_30 rfl ?_
  refine k_iload_n eX0_begin_31 rfl ?_
  refine cV1 (M' := MX0_kindOf) eX0_begin_32 mX0_48 wX0_kindOf vX0_kindOf ⟨_, _, _, rfl, rfl, rfl⟩ rfl (pX0_kindOf (S := (si (si S 203 (nI 0)) 204 (nI p))) (j := p) (by omega)) (by decide) (Nat.le_of_ble_eq_true rfl) ?_
  refine k_topi (nI 0) hk ?_
  refine PX0_51 eX0_begin_35 rfl ?_
  refine k_aload_n eX0_begin_38 rfl ?_
  refine k_aload_n eX0_begin_39 rfl ?_
  refine GX0_51 eX0_begin_40 rfl ?_
  refine k_topi (nI 0) rfl ?_
  refine k_iload_n eX0_begin_43 rfl ?_
  refine k_iload_n eX0_begin_44 rfl ?_
  refine k_iconst (v := nI 0) eX0_begin_45 (by decide) ?_
  refine cV1 (M' := MX0_ask) eX0_begin_46 mX0_54 wX0_ask vX0_ask ⟨_, _, _, rfl, rfl, rfl⟩ rfl (pX0_ask_0_0_1 (S := (si (si (si S 203 (nI 0)) 204 (nI p)) 205 (nI 0))) (n := 0) (dep := 0) (nb := nI p) rfl rfl rfl (by decide) (by decide) x) (by decide) (Nat.le_of_ble_eq_true rfl) ?_
  refine k_ireturn eX0_begin_49 rfl rfl ?_
  exact ⟨rfl, rfl⟩
set_option maxHeartbeats 400000 in
theorem pX0_begin_0_2 {S : k_S} {p kn : Nat} (hpk : S.1 201 = nI kn) (hpp : p < kn) (hkn : kn ≤ 50) (hk : S.2.1 5 p = nI 0) (x : Int32) : Sp 16 0 0 MX0_begin [.ref 4, .int (nI p), .int (nI 2), .int (x)] (hp S) (Rt (some (.int (acV 0 2 x (nI p)))) (hp (acS S p 0 2))) := by
  refine Sp_of (by decide +kernel) (Nat.le_of_ble_eq_true rfl) ?_
  show AW none MX0_begin 16 0 0 0 [.ref 4, .int (nI p), .int (nI 2), .int (x)] [] (hp S) _
  refine k_aload_n eX0_begin_0 rfl ?_
  refine k_iconst (v := nI 0) eX0_begin_1 (by decide) ?_
  refine PX0_22 eX0_begin_2 rfl ?_
  refine k_aload_n eX0_begin_5 rfl ?_
  refine k_iload_n eX0_begin_6 rfl ?_
  refine cV1 (M' := MX0_has) eX0_begin_7 mX0_37 wX0_has vX0_has ⟨_, _, _, rfl, rfl, rfl⟩ rfl (pX0_has (S := (si S 203 (nI 0))) (nI p)) (by decide) (Nat.le_of_ble_eq_true rfl) ?_
  refine k_ifb_eq 22 eX0_begin_10 (by decide) (fun c_10 => by exact absurd ⟨nI_pos' (by omega), by show nI p < S.1 201; rw [hpk]; exact nI_lt hpp (by omega)⟩ c_10) (fun c_10 => ?_)
  refine k_iload_n eX0_begin_13 rfl ?_
  refine k_iconst (v := nI 0) eX0_begin_14 (by decide) ?_
  refine k_iconst (v := nI 3) eX0_begin_15 (by decide) ?_
  refine cN1 (M' := MX11_within) eX0_begin_16 mX0_41 wX11_within sX11_within rfl (pX11_within (nI 2) (nI 0) (nI 3)) (by decide) (Nat.le_of_ble_eq_true rfl) ?_
  refine k_ifb_ne 24 eX0_begin_19 (by decide) (fun c_19 => ?_) (fun c_19 => by exact absurd ⟨by decide, by decide⟩ c_19)
  refine k_aload_n eX0_begin_24 rfl ?_
  refine k_iload_n eX0_begin_25 rfl ?_
  refine PX0_45 eX0_begin_26 rfl ?_
  refine k_aload_n eX0_begin_29 rfl ?_
  refine k_aload_n eX0_begin_30 rfl ?_
  refine k_iload_n eX0_begin_31 rfl ?_
  refine cV1 (M' := MX0_kindOf) eX0_begin_32 mX0_48 wX0_kindOf vX0_kindOf ⟨_, _, _, rfl, rfl, rfl⟩ rfl (pX0_kindOf (S := (si (si S 203 (nI 0)) 204 (nI p))) (j := p) (by omega)) (by decide) (Nat.le_of_ble_eq_true rfl) ?_
  refine k_topi (nI 0) hk ?_
  refine PX0_51 eX0_begin_35 rfl ?_
  refine k_aload_n eX0_begin_38 rfl ?_
  refine k_aload_n eX0_begin_39 rfl ?_
  refine GX0_51 eX0_begin_40 rfl ?_
  refine k_topi (nI 0) rfl ?_
  refine k_iload_n eX0_begin_43 rfl ?_
  refine k_iload_n eX0_begin_44 rfl ?_
  refine k_iconst (v := nI 0) eX0_begin_45 (by decide) ?_
  refine cV1 (M' := MX0_ask) eX0_begin_46 mX0_54 wX0_ask vX0_ask ⟨_, _, _, rfl, rfl, rfl⟩ rfl (pX0_ask_0_0_2 (S := (si (si (si S 203 (nI 0)) 204 (nI p)) 205 (nI 0))) (n := 0) (dep := 0) (nb := nI p) rfl rfl rfl (by decide) (by decide) x) (by decide) (Nat.le_of_ble_eq_true rfl) ?_
  refine k_ireturn eX0_begin_49 rfl rfl ?_
  exact ⟨rfl, rfl⟩
set_option maxHeartbeats 400000 in
theorem pX0_begin_0_3 {S : k_S} {p kn : Nat} (hpk : S.1 201 = nI kn) (hpp : p < kn) (hkn : kn ≤ 50) (hk : S.2.1 5 p = nI 0) (x : Int32) : Sp 16 0 0 MX0_begin [.ref 4, .int (nI p), .int (nI 3), .int (x)] (hp S) (Rt (some (.int (acV 0 3 x (nI p)))) (hp (acS S p 0 3))) := by
  refine Sp_of (by decide +kernel) (Nat.le_of_ble_eq_true rfl) ?_
  show AW none MX0_begin 16 0 0 0 [.ref 4, .int (nI p), .int (nI 3), .int (x)] [] (hp S) _
  refine k_aload_n eX0_begin_0 rfl ?_
  refine k_iconst (v := nI 0) eX0_begin_1 (by decide) ?_
  refine PX0_22 eX0_begin_2 rfl ?_
  refine k_aload_n eX0_begin_5 rfl ?_
  refine k_iload_n eX0_begin_6 rfl ?_
  refine cV1 (M' := MX0_has) eX0_begin_7 mX0_37 wX0_has vX0_has ⟨_, _, _, rfl, rfl, rfl⟩ rfl (pX0_has (S := (si S 203 (nI 0))) (nI p)) (by decide) (Nat.le_of_ble_eq_true rfl) ?_
  refine k_ifb_eq 22 eX0_begin_10 (by decide) (fun c_10 => by exact absurd ⟨nI_pos' (by omega), by show nI p < S.1 201; rw [hpk]; exact nI_lt hpp (by omega)⟩ c_10) (fun c_10 => ?_)
  refine k_iload_n eX0_begin_13 rfl ?_
  refine k_iconst (v := nI 0) eX0_begin_14 (by decide) ?_
  refine k_iconst (v := nI 3) eX0_begin_15 (by decide) ?_
  refine cN1 (M' := MX11_within) eX0_begin_16 mX0_41 wX11_within sX11_within rfl (pX11_within (nI 3) (nI 0) (nI 3)) (by decide) (Nat.le_of_ble_eq_true rfl) ?_
  refine k_ifb_ne 24 eX0_begin_19 (by decide) (fun c_19 => ?_) (fun c_19 => by exact absurd ⟨by decide, by decide⟩ c_19)
  refine k_aload_n eX0_begin_24 rfl ?_
  refine k_iload_n eX0_begin_25 rfl ?_
  refine PX0_45 eX0_begin_26 rfl ?_
  refine k_aload_n eX0_begin_29 rfl ?_
  refine k_aload_n eX0_begin_30 rfl ?_
  refine k_iload_n eX0_begin_31 rfl ?_
  refine cV1 (M' := MX0_kindOf) eX0_begin_32 mX0_48 wX0_kindOf vX0_kindOf ⟨_, _, _, rfl, rfl, rfl⟩ rfl (pX0_kindOf (S := (si (si S 203 (nI 0)) 204 (nI p))) (j := p) (by omega)) (by decide) (Nat.le_of_ble_eq_true rfl) ?_
  refine k_topi (nI 0) hk ?_
  refine PX0_51 eX0_begin_35 rfl ?_
  refine k_aload_n eX0_begin_38 rfl ?_
  refine k_aload_n eX0_begin_39 rfl ?_
  refine GX0_51 eX0_begin_40 rfl ?_
  refine k_topi (nI 0) rfl ?_
  refine k_iload_n eX0_begin_43 rfl ?_
  refine k_iload_n eX0_begin_44 rfl ?_
  refine k_iconst (v := nI 0) eX0_begin_45 (by decide) ?_
  refine cV1 (M' := MX0_ask) eX0_begin_46 mX0_54 wX0_ask vX0_ask ⟨_, _, _, rfl, rfl, rfl⟩ rfl (pX0_ask_0_0_3 (S := (si (si (si S 203 (nI 0)) 204 (nI p)) 205 (nI 0))) (n := 0) (dep := 0) (nb := nI p) rfl rfl rfl (by decide) (by decide) x) (by decide) (Nat.le_of_ble_eq_true rfl) ?_
  refine k_ireturn eX0_begin_49 rfl rfl ?_
  exact ⟨rfl, rfl⟩
set_option maxHeartbeats 400000 in
theorem pX0_begin_1_0 {S : k_S} {p kn : Nat} (hpk : S.1 201 = nI kn) (hpp : p < kn) (hkn : kn ≤ 50) (hk : S.2.1 5 p = nI 1) (x : Int32) : Sp 16 0 0 MX0_begin [.ref 4, .int (nI p), .int (nI 0), .int (x)] (hp S) (Rt (some (.int (acV 1 0 x (nI p)))) (hp (acS S p 1 0))) := by
  refine Sp_of (by decide +kernel) (Nat.le_of_ble_eq_true rfl) ?_
  show AW none MX0_begin 16 0 0 0 [.ref 4, .int (nI p), .int (nI 0), .int (x)] [] (hp S) _
  refine k_aload_n eX0_begin_0 rfl ?_
  refine k_iconst (v := nI 0) eX0_begin_1 (by decide) ?_
  refine PX0_22 eX0_begin_2 rfl ?_
  refine k_aload_n eX0_begin_5 rfl ?_
  refine k_iload_n eX0_begin_6 rfl ?_
  refine cV1 (M' := MX0_has) eX0_begin_7 mX0_37 wX0_has vX0_has ⟨_, _, _, rfl, rfl, rfl⟩ rfl (pX0_has (S := (si S 203 (nI 0))) (nI p)) (by decide) (Nat.le_of_ble_eq_true rfl) ?_
  refine k_ifb_eq 22 eX0_begin_10 (by decide) (fun c_10 => by exact absurd ⟨nI_pos' (by omega), by show nI p < S.1 201; rw [hpk]; exact nI_lt hpp (by omega)⟩ c_10) (fun c_10 => ?_)
  refine k_iload_n eX0_begin_13 rfl ?_
  refine k_iconst (v := nI 0) eX0_begin_14 (by decide) ?_
  refine k_iconst (v := nI 3) eX0_begin_15 (by decide) ?_
  refine cN1 (M' := MX11_within) eX0_begin_16 mX0_41 wX11_within sX11_within rfl (pX11_within (nI 0) (nI 0) (nI 3)) (by decide) (Nat.le_of_ble_eq_true rfl) ?_
  refine k_ifb_ne 24 eX0_begin_19 (by decide) (fun c_19 => ?_) (fun c_19 => by exact absurd ⟨by decide, by decide⟩ c_19)
  refine k_aload_n eX0_begin_24 rfl ?_
  refine k_iload_n eX0_begin_25 rfl ?_
  refine PX0_45 eX0_begin_26 rfl ?_
  refine k_aload_n eX0_begin_29 rfl ?_
  refine k_aload_n eX0_begin_30 rfl ?_
  refine k_iload_n eX0_begin_31 rfl ?_
  refine cV1 (M' := MX0_kindOf) eX0_begin_32 mX0_48 wX0_kindOf vX0_kindOf ⟨_, _, _, rfl, rfl, rfl⟩ rfl (pX0_kindOf (S := (si (si S 203 (nI 0)) 204 (nI p))) (j := p) (by omega)) (by decide) (Nat.le_of_ble_eq_true rfl) ?_
  refine k_topi (nI 1) hk ?_
  refine PX0_51 eX0_begin_35 rfl ?_
  refine k_aload_n eX0_begin_38 rfl ?_
  refine k_aload_n eX0_begin_39 rfl ?_
  refine GX0_51 eX0_begin_40 rfl ?_
  refine k_topi (nI 1) rfl ?_
  refine k_iload_n eX0_begin_43 rfl ?_
  refine k_iload_n eX0_begin_44 rfl ?_
  refine k_iconst (v := nI 0) eX0_begin_45 (by decide) ?_
  refine cV1 (M' := MX0_ask) eX0_begin_46 mX0_54 wX0_ask vX0_ask ⟨_, _, _, rfl, rfl, rfl⟩ rfl (pX0_ask_1_1_0 (S := (si (si (si S 203 (nI 0)) 204 (nI p)) 205 (nI 1))) (n := 0) (dep := 0) (nb := nI p) rfl rfl rfl (by decide) (by decide) x) (by decide) (Nat.le_of_ble_eq_true rfl) ?_
  refine k_ireturn eX0_begin_49 rfl rfl ?_
  exact ⟨rfl, rfl⟩
set_option maxHeartbeats 400000 in
theorem pX0_begin_1_1 {S : k_S} {p kn : Nat} (hpk : S.1 201 = nI kn) (hpp : p < kn) (hkn : kn ≤ 50) (hk : S.2.1 5 p = nI 1) (x : Int32) : Sp 16 0 0 MX0_begin [.ref 4, .int (nI p), .int (nI 1), .int (x)] (hp S) (Rt (some (.int (acV 1 1 x (nI p)))) (hp (acS S p 1 1))) := by
  refine Sp_of (by decide +kernel) (Nat.le_of_ble_eq_true rfl) ?_
  show AW none MX0_begin 16 0 0 0 [.ref 4, .int (nI p), .int (nI 1), .int (x)] [] (hp S) _
  refine k_aload_n eX0_begin_0 rfl ?_
  refine k_iconst (v := nI 0) eX0_begin_1 (by decide) ?_
  refine PX0_22 eX0_begin_2 rfl ?_
  refine k_aload_n eX0_begin_5 rfl ?_
  refine k_iload_n eX0_begin_6 rfl ?_
  refine cV1 (M' := MX0_has) eX0_begin_7 mX0_37 wX0_has vX0_has ⟨_, _, _, rfl, rfl, rfl⟩ rfl (pX0_has (S := (si S 203 (nI 0))) (nI p)) (by decide) (Nat.le_of_ble_eq_true rfl) ?_
  refine k_ifb_eq 22 eX0_begin_10 (by decide) (fun c_10 => by exact absurd ⟨nI_pos' (by omega), by show nI p < S.1 201; rw [hpk]; exact nI_lt hpp (by omega)⟩ c_10) (fun c_10 => ?_)
  refine k_iload_n eX0_begin_13 rfl ?_
  refine k_iconst (v := nI 0) eX0_begin_14 (by decide) ?_
  refine k_iconst (v := nI 3) eX0_begin_15 (by decide) ?_
  refine cN1 (M' := MX11_within) eX0_begin_16 mX0_41 wX11_within sX11_within rfl (pX11_within (nI 1) (nI 0) (nI 3)) (by decide) (Nat.le_of_ble_eq_true rfl) ?_
  refine k_ifb_ne 24 eX0_begin_19 (by decide) (fun c_19 => ?_) (fun c_19 => by exact absurd ⟨by decide, by decide⟩ c_19)
  refine k_aload_n eX0_begin_24 rfl ?_
  refine k_iload_n eX0_begin_25 rfl ?_
  refine PX0_45 eX0_begin_26 rfl ?_
  refine k_aload_n eX0_begin_29 rfl ?_
  refine k_aload_n eX0_begin_30 rfl ?_
  refine k_iload_n eX0_begin_31 rfl ?_
  refine cV1 (M' := MX0_kindOf) eX0_begin_32 mX0_48 wX0_kindOf vX0_kindOf ⟨_, _, _, rfl, rfl, rfl⟩ rfl (pX0_kindOf (S := (si (si S 203 (nI 0)) 204 (nI p))) (j := p) (by omega)) (by decide) (Nat.le_of_ble_eq_true rfl) ?_
  refine k_topi (nI 1) hk ?_
  refine PX0_51 eX0_begin_35 rfl ?_
  refine k_aload_n eX0_begin_38 rfl ?_
  refine k_aload_n eX0_begin_39 rfl ?_
  refine GX0_51 eX0_begin_40 rfl ?_
  refine k_topi (nI 1) rfl ?_
  refine k_iload_n eX0_begin_43 rfl ?_
  refine k_iload_n eX0_begin_44 rfl ?_
  refine k_iconst (v := nI 0) eX0_begin_45 (by decide) ?_
  refine cV1 (M' := MX0_ask) eX0_begin_46 mX0_54 wX0_ask vX0_ask ⟨_, _, _, rfl, rfl, rfl⟩ rfl (pX0_ask_1_1_1 (S := (si (si (si S 203 (nI 0)) 204 (nI p)) 205 (nI 1))) (n := 0) (dep := 0) (nb := nI p) rfl rfl rfl (by decide) (by decide) x) (by decide) (Nat.le_of_ble_eq_true rfl) ?_
  refine k_ireturn eX0_begin_49 rfl rfl ?_
  exact ⟨rfl, rfl⟩
set_option maxHeartbeats 400000 in
theorem pX0_begin_1_2 {S : k_S} {p kn : Nat} (hpk : S.1 201 = nI kn) (hpp : p < kn) (hkn : kn ≤ 50) (hk : S.2.1 5 p = nI 1) (x : Int32) : Sp 16 0 0 MX0_begin [.ref 4, .int (nI p), .int (nI 2), .int (x)] (hp S) (Rt (some (.int (acV 1 2 x (nI p)))) (hp (acS S p 1 2))) := by
  refine Sp_of (by decide +kernel) (Nat.le_of_ble_eq_true rfl) ?_
  show AW none MX0_begin 16 0 0 0 [.ref 4, .int (nI p), .int (nI 2), .int (x)] [] (hp S) _
  refine k_aload_n eX0_begin_0 rfl ?_
  refine k_iconst (v := nI 0) eX0_begin_1 (by decide) ?_
  refine PX0_22 eX0_begin_2 rfl ?_
  refine k_aload_n eX0_begin_5 rfl ?_
  refine k_iload_n eX0_begin_6 rfl ?_
  refine cV1 (M' := MX0_has) eX0_begin_7 mX0_37 wX0_has vX0_has ⟨_, _, _, rfl, rfl, rfl⟩ rfl (pX0_has (S := (si S 203 (nI 0))) (nI p)) (by decide) (Nat.le_of_ble_eq_true rfl) ?_
  refine k_ifb_eq 22 eX0_begin_10 (by decide) (fun c_10 => by exact absurd ⟨nI_pos' (by omega), by show nI p < S.1 201; rw [hpk]; exact nI_lt hpp (by omega)⟩ c_10) (fun c_10 => ?_)
  refine k_iload_n eX0_begin_13 rfl ?_
  refine k_iconst (v := nI 0) eX0_begin_14 (by decide) ?_
  refine k_iconst (v := nI 3) eX0_begin_15 (by decide) ?_
  refine cN1 (M' := MX11_within) eX0_begin_16 mX0_41 wX11_within sX11_within rfl (pX11_within (nI 2) (nI 0) (nI 3)) (by decide) (Nat.le_of_ble_eq_true rfl) ?_
  refine k_ifb_ne 24 eX0_begin_19 (by decide) (fun c_19 => ?_) (fun c_19 => by exact absurd ⟨by decide, by decide⟩ c_19)
  refine k_aload_n eX0_begin_24 rfl ?_
  refine k_iload_n eX0_begin_25 rfl ?_
  refine PX0_45 eX0_begin_26 rfl ?_
  refine k_aload_n eX0_begin_29 rfl ?_
  refine k_aload_n eX0_begin_30 rfl ?_
  refine k_iload_n eX0_begin_31 rfl ?_
  refine cV1 (M' := MX0_kindOf) eX0_begin_32 mX0_48 wX0_kindOf vX0_kindOf ⟨_, _, _, rfl, rfl, rfl⟩ rfl (pX0_kindOf (S := (si (si S 203 (nI 0)) 204 (nI p))) (j := p) (by omega)) (by decide) (Nat.le_of_ble_eq_true rfl) ?_
  refine k_topi (nI 1) hk ?_
  refine PX0_51 eX0_begin_35 rfl ?_
  refine k_aload_n eX0_begin_38 rfl ?_
  refine k_aload_n eX0_begin_39 rfl ?_
  refine GX0_51 eX0_begin_40 rfl ?_
  refine k_topi (nI 1) rfl ?_
  refine k_iload_n eX0_begin_43 rfl ?_
  refine k_iload_n eX0_begin_44 rfl ?_
  refine k_iconst (v := nI 0) eX0_begin_45 (by decide) ?_
  refine cV1 (M' := MX0_ask) eX0_begin_46 mX0_54 wX0_ask vX0_ask ⟨_, _, _, rfl, rfl, rfl⟩ rfl (pX0_ask_1_1_2 (S := (si (si (si S 203 (nI 0)) 204 (nI p)) 205 (nI 1))) (n := 0) (dep := 0) (nb := nI p) rfl rfl rfl (by decide) (by decide) x) (by decide) (Nat.le_of_ble_eq_true rfl) ?_
  refine k_ireturn eX0_begin_49 rfl rfl ?_
  exact ⟨rfl, rfl⟩
set_option maxHeartbeats 400000 in
theorem pX0_begin_1_3 {S : k_S} {p kn : Nat} (hpk : S.1 201 = nI kn) (hpp : p < kn) (hkn : kn ≤ 50) (hk : S.2.1 5 p = nI 1) (x : Int32) : Sp 16 0 0 MX0_begin [.ref 4, .int (nI p), .int (nI 3), .int (x)] (hp S) (Rt (some (.int (acV 1 3 x (nI p)))) (hp (acS S p 1 3))) := by
  refine Sp_of (by decide +kernel) (Nat.le_of_ble_eq_true rfl) ?_
  show AW none MX0_begin 16 0 0 0 [.ref 4, .int (nI p), .int (nI 3), .int (x)] [] (hp S) _
  refine k_aload_n eX0_begin_0 rfl ?_
  refine k_iconst (v := nI 0) eX0_begin_1 (by decide) ?_
  refine PX0_22 eX0_begin_2 rfl ?_
  refine k_aload_n eX0_begin_5 rfl ?_
  refine k_iload_n eX0_begin_6 rfl ?_
  refine cV1 (M' := MX0_has) eX0_begin_7 mX0_37 wX0_has vX0_has ⟨_, _, _, rfl, rfl, rfl⟩ rfl (pX0_has (S := (si S 203 (nI 0))) (nI p)) (by decide) (Nat.le_of_ble_eq_true rfl) ?_
  refine k_ifb_eq 22 eX0_begin_10 (by decide) (fun c_10 => by exact absurd ⟨nI_pos' (by omega), by show nI p < S.1 201; rw [hpk]; exact nI_lt hpp (by omega)⟩ c_10) (fun c_10 => ?_)
  refine k_iload_n eX0_begin_13 rfl ?_
  refine k_iconst (v := nI 0) eX0_begin_14 (by decide) ?_
  refine k_iconst (v := nI 3) eX0_begin_15 (by decide) ?_
  refine cN1 (M' := MX11_within) eX0_begin_16 mX0_41 wX11_within sX11_within rfl (pX11_within (nI 3) (nI 0) (nI 3)) (by decide) (Nat.le_of_ble_eq_true rfl) ?_
  refine k_ifb_ne 24 eX0_begin_19 (by decide) (fun c_19 => ?_) (fun c_19 => by exact absurd ⟨by decide, by decide⟩ c_19)
  refine k_aload_n eX0_begin_24 rfl ?_
  refine k_iload_n eX0_begin_25 rfl ?_
  refine PX0_45 eX0_begin_26 rfl ?_
  refine k_aload_n eX0_begin_29 rfl ?_
  refine k_aload_n eX0_begin_30 rfl ?_
  refine k_iload_n eX0_begin_31 rfl ?_
  refine cV1 (M' := MX0_kindOf) eX0_begin_32 mX0_48 wX0_kindOf vX0_kindOf ⟨_, _, _, rfl, rfl, rfl⟩ rfl (pX0_kindOf (S := (si (si S 203 (nI 0)) 204 (nI p))) (j := p) (by omega)) (by decide) (Nat.le_of_ble_eq_true rfl) ?_
  refine k_topi (nI 1) hk ?_
  refine PX0_51 eX0_begin_35 rfl ?_
  refine k_aload_n eX0_begin_38 rfl ?_
  refine k_aload_n eX0_begin_39 rfl ?_
  refine GX0_51 eX0_begin_40 rfl ?_
  refine k_topi (nI 1) rfl ?_
  refine k_iload_n eX0_begin_43 rfl ?_
  refine k_iload_n eX0_begin_44 rfl ?_
  refine k_iconst (v := nI 0) eX0_begin_45 (by decide) ?_
  refine cV1 (M' := MX0_ask) eX0_begin_46 mX0_54 wX0_ask vX0_ask ⟨_, _, _, rfl, rfl, rfl⟩ rfl (pX0_ask_1_1_3 (S := (si (si (si S 203 (nI 0)) 204 (nI p)) 205 (nI 1))) (n := 0) (dep := 0) (nb := nI p) rfl rfl rfl (by decide) (by decide) x) (by decide) (Nat.le_of_ble_eq_true rfl) ?_
  refine k_ireturn eX0_begin_49 rfl rfl ?_
  exact ⟨rfl, rfl⟩
set_option maxHeartbeats 400000 in
theorem pX0_begin_2_0 {S : k_S} {p kn : Nat} (hpk : S.1 201 = nI kn) (hpp : p < kn) (hkn : kn ≤ 50) (hk : S.2.1 5 p = nI 2) (x : Int32) : Sp 16 0 0 MX0_begin [.ref 4, .int (nI p), .int (nI 0), .int (x)] (hp S) (Rt (some (.int (acV 2 0 x (nI p)))) (hp (acS S p 2 0))) := by
  refine Sp_of (by decide +kernel) (Nat.le_of_ble_eq_true rfl) ?_
  show AW none MX0_begin 16 0 0 0 [.ref 4, .int (nI p), .int (nI 0), .int (x)] [] (hp S) _
  refine k_aload_n eX0_begin_0 rfl ?_
  refine k_iconst (v := nI 0) eX0_begin_1 (by decide) ?_
  refine PX0_22 eX0_begin_2 rfl ?_
  refine k_aload_n eX0_begin_5 rfl ?_
  refine k_iload_n eX0_begin_6 rfl ?_
  refine cV1 (M' := MX0_has) eX0_begin_7 mX0_37 wX0_has vX0_has ⟨_, _, _, rfl, rfl, rfl⟩ rfl (pX0_has (S := (si S 203 (nI 0))) (nI p)) (by decide) (Nat.le_of_ble_eq_true rfl) ?_
  refine k_ifb_eq 22 eX0_begin_10 (by decide) (fun c_10 => by exact absurd ⟨nI_pos' (by omega), by show nI p < S.1 201; rw [hpk]; exact nI_lt hpp (by omega)⟩ c_10) (fun c_10 => ?_)
  refine k_iload_n eX0_begin_13 rfl ?_
  refine k_iconst (v := nI 0) eX0_begin_14 (by decide) ?_
  refine k_iconst (v := nI 3) eX0_begin_15 (by decide) ?_
  refine cN1 (M' := MX11_within) eX0_begin_16 mX0_41 wX11_within sX11_within rfl (pX11_within (nI 0) (nI 0) (nI 3)) (by decide) (Nat.le_of_ble_eq_true rfl) ?_
  refine k_ifb_ne 24 eX0_begin_19 (by decide) (fun c_19 => ?_) (fun c_19 => by exact absurd ⟨by decide, by decide⟩ c_19)
  refine k_aload_n eX0_begin_24 rfl ?_
  refine k_iload_n eX0_begin_25 rfl ?_
  refine PX0_45 eX0_begin_26 rfl ?_
  refine k_aload_n eX0_begin_29 rfl ?_
  refine k_aload_n eX0_begin_30 rfl ?_
  refine k_iload_n eX0_begin_31 rfl ?_
  refine cV1 (M' := MX0_kindOf) eX0_begin_32 mX0_48 wX0_kindOf vX0_kindOf ⟨_, _, _, rfl, rfl, rfl⟩ rfl (pX0_kindOf (S := (si (si S 203 (nI 0)) 204 (nI p))) (j := p) (by omega)) (by decide) (Nat.le_of_ble_eq_true rfl) ?_
  refine k_topi (nI 2) hk ?_
  refine PX0_51 eX0_begin_35 rfl ?_
  refine k_aload_n eX0_begin_38 rfl ?_
  refine k_aload_n eX0_begin_39 rfl ?_
  refine GX0_51 eX0_begin_40 rfl ?_
  refine k_topi (nI 2) rfl ?_
  refine k_iload_n eX0_begin_43 rfl ?_
  refine k_iload_n eX0_begin_44 rfl ?_
  refine k_iconst (v := nI 0) eX0_begin_45 (by decide) ?_
  refine cV1 (M' := MX0_ask) eX0_begin_46 mX0_54 wX0_ask vX0_ask ⟨_, _, _, rfl, rfl, rfl⟩ rfl (pX0_ask_2_2_0 (S := (si (si (si S 203 (nI 0)) 204 (nI p)) 205 (nI 2))) (n := 0) (dep := 0) (nb := nI p) rfl rfl rfl (by decide) (by decide) x) (by decide) (Nat.le_of_ble_eq_true rfl) ?_
  refine k_ireturn eX0_begin_49 rfl rfl ?_
  exact ⟨rfl, rfl⟩
set_option maxHeartbeats 400000 in
theorem pX0_begin_2_1 {S : k_S} {p kn : Nat} (hpk : S.1 201 = nI kn) (hpp : p < kn) (hkn : kn ≤ 50) (hk : S.2.1 5 p = nI 2) (x : Int32) : Sp 16 0 0 MX0_begin [.ref 4, .int (nI p), .int (nI 1), .int (x)] (hp S) (Rt (some (.int (acV 2 1 x (nI p)))) (hp (acS S p 2 1))) := by
  refine Sp_of (by decide +kernel) (Nat.le_of_ble_eq_true rfl) ?_
  show AW none MX0_begin 16 0 0 0 [.ref 4, .int (nI p), .int (nI 1), .int (x)] [] (hp S) _
  refine k_aload_n eX0_begin_0 rfl ?_
  refine k_iconst (v := nI 0) eX0_begin_1 (by decide) ?_
  refine PX0_22 eX0_begin_2 rfl ?_
  refine k_aload_n eX0_begin_5 rfl ?_
  refine k_iload_n eX0_begin_6 rfl ?_
  refine cV1 (M' := MX0_has) eX0_begin_7 mX0_37 wX0_has vX0_has ⟨_, _, _, rfl, rfl, rfl⟩ rfl (pX0_has (S := (si S 203 (nI 0))) (nI p)) (by decide) (Nat.le_of_ble_eq_true rfl) ?_
  refine k_ifb_eq 22 eX0_begin_10 (by decide) (fun c_10 => by exact absurd ⟨nI_pos' (by omega), by show nI p < S.1 201; rw [hpk]; exact nI_lt hpp (by omega)⟩ c_10) (fun c_10 => ?_)
  refine k_iload_n eX0_begin_13 rfl ?_
  refine k_iconst (v := nI 0) eX0_begin_14 (by decide) ?_
  refine k_iconst (v := nI 3) eX0_begin_15 (by decide) ?_
  refine cN1 (M' := MX11_within) eX0_begin_16 mX0_41 wX11_within sX11_within rfl (pX11_within (nI 1) (nI 0) (nI 3)) (by decide) (Nat.le_of_ble_eq_true rfl) ?_
  refine k_ifb_ne 24 eX0_begin_19 (by decide) (fun c_19 => ?_) (fun c_19 => by exact absurd ⟨by decide, by decide⟩ c_19)
  refine k_aload_n eX0_begin_24 rfl ?_
  refine k_iload_n eX0_begin_25 rfl ?_
  refine PX0_45 eX0_begin_26 rfl ?_
  refine k_aload_n eX0_begin_29 rfl ?_
  refine k_aload_n eX0_begin_30 rfl ?_
  refine k_iload_n eX0_begin_31 rfl ?_
  refine cV1 (M' := MX0_kindOf) eX0_begin_32 mX0_48 wX0_kindOf vX0_kindOf ⟨_, _, _, rfl, rfl, rfl⟩ rfl (pX0_kindOf (S := (si (si S 203 (nI 0)) 204 (nI p))) (j := p) (by omega)) (by decide) (Nat.le_of_ble_eq_true rfl) ?_
  refine k_topi (nI 2) hk ?_
  refine PX0_51 eX0_begin_35 rfl ?_
  refine k_aload_n eX0_begin_38 rfl ?_
  refine k_aload_n eX0_begin_39 rfl ?_
  refine GX0_51 eX0_begin_40 rfl ?_
  refine k_topi (nI 2) rfl ?_
  refine k_iload_n eX0_begin_43 rfl ?_
  refine k_iload_n eX0_begin_44 rfl ?_
  refine k_iconst (v := nI 0) eX0_begin_45 (by decide) ?_
  refine cV1 (M' := MX0_ask) eX0_begin_46 mX0_54 wX0_ask vX0_ask ⟨_, _, _, rfl, rfl, rfl⟩ rfl (pX0_ask_2_2_1 (S := (si (si (si S 203 (nI 0)) 204 (nI p)) 205 (nI 2))) (n := 0) (dep := 0) (nb := nI p) rfl rfl rfl (by decide) (by decide) x) (by decide) (Nat.le_of_ble_eq_true rfl) ?_
  refine k_ireturn eX0_begin_49 rfl rfl ?_
  exact ⟨rfl, rfl⟩
set_option maxHeartbeats 400000 in
theorem pX0_begin_2_2 {S : k_S} {p kn : Nat} (hpk : S.1 201 = nI kn) (hpp : p < kn) (hkn : kn ≤ 50) (hk : S.2.1 5 p = nI 2) (x : Int32) : Sp 16 0 0 MX0_begin [.ref 4, .int (nI p), .int (nI 2), .int (x)] (hp S) (Rt (some (.int (acV 2 2 x (nI p)))) (hp (acS S p 2 2))) := by
  refine Sp_of (by decide +kernel) (Nat.le_of_ble_eq_true rfl) ?_
  show AW none MX0_begin 16 0 0 0 [.ref 4, .int (nI p), .int (nI 2), .int (x)] [] (hp S) _
  refine k_aload_n eX0_begin_0 rfl ?_
  refine k_iconst (v := nI 0) eX0_begin_1 (by decide) ?_
  refine PX0_22 eX0_begin_2 rfl ?_
  refine k_aload_n eX0_begin_5 rfl ?_
  refine k_iload_n eX0_begin_6 rfl ?_
  refine cV1 (M' := MX0_has) eX0_begin_7 mX0_37 wX0_has vX0_has ⟨_, _, _, rfl, rfl, rfl⟩ rfl (pX0_has (S := (si S 203 (nI 0))) (nI p)) (by decide) (Nat.le_of_ble_eq_true rfl) ?_
  refine k_ifb_eq 22 eX0_begin_10 (by decide) (fun c_10 => by exact absurd ⟨nI_pos' (by omega), by show nI p < S.1 201; rw [hpk]; exact nI_lt hpp (by omega)⟩ c_10) (fun c_10 => ?_)
  refine k_iload_n eX0_begin_13 rfl ?_
  refine k_iconst (v := nI 0) eX0_begin_14 (by decide) ?_
  refine k_iconst (v := nI 3) eX0_begin_15 (by decide) ?_
  refine cN1 (M' := MX11_within) eX0_begin_16 mX0_41 wX11_within sX11_within rfl (pX11_within (nI 2) (nI 0) (nI 3)) (by decide) (Nat.le_of_ble_eq_true rfl) ?_
  refine k_ifb_ne 24 eX0_begin_19 (by decide) (fun c_19 => ?_) (fun c_19 => by exact absurd ⟨by decide, by decide⟩ c_19)
  refine k_aload_n eX0_begin_24 rfl ?_
  refine k_iload_n eX0_begin_25 rfl ?_
  refine PX0_45 eX0_begin_26 rfl ?_
  refine k_aload_n eX0_begin_29 rfl ?_
  refine k_aload_n eX0_begin_30 rfl ?_
  refine k_iload_n eX0_begin_31 rfl ?_
  refine cV1 (M' := MX0_kindOf) eX0_begin_32 mX0_48 wX0_kindOf vX0_kindOf ⟨_, _, _, rfl, rfl, rfl⟩ rfl (pX0_kindOf (S := (si (si S 203 (nI 0)) 204 (nI p))) (j := p) (by omega)) (by decide) (Nat.le_of_ble_eq_true rfl) ?_
  refine k_topi (nI 2) hk ?_
  refine PX0_51 eX0_begin_35 rfl ?_
  refine k_aload_n eX0_begin_38 rfl ?_
  refine k_aload_n eX0_begin_39 rfl ?_
  refine GX0_51 eX0_begin_40 rfl ?_
  refine k_topi (nI 2) rfl ?_
  refine k_iload_n eX0_begin_43 rfl ?_
  refine k_iload_n eX0_begin_44 rfl ?_
  refine k_iconst (v := nI 0) eX0_begin_45 (by decide) ?_
  refine cV1 (M' := MX0_ask) eX0_begin_46 mX0_54 wX0_ask vX0_ask ⟨_, _, _, rfl, rfl, rfl⟩ rfl (pX0_ask_2_2_2 (S := (si (si (si S 203 (nI 0)) 204 (nI p)) 205 (nI 2))) (n := 0) (dep := 0) (nb := nI p) rfl rfl rfl (by decide) (by decide) x) (by decide) (Nat.le_of_ble_eq_true rfl) ?_
  refine k_ireturn eX0_begin_49 rfl rfl ?_
  exact ⟨rfl, rfl⟩
set_option maxHeartbeats 400000 in
theorem pX0_begin_2_3 {S : k_S} {p kn : Nat} (hpk : S.1 201 = nI kn) (hpp : p < kn) (hkn : kn ≤ 50) (hk : S.2.1 5 p = nI 2) (x : Int32) : Sp 16 0 0 MX0_begin [.ref 4, .int (nI p), .int (nI 3), .int (x)] (hp S) (Rt (some (.int (acV 2 3 x (nI p)))) (hp (acS S p 2 3))) := by
  refine Sp_of (by decide +kernel) (Nat.le_of_ble_eq_true rfl) ?_
  show AW none MX0_begin 16 0 0 0 [.ref 4, .int (nI p), .int (nI 3), .int (x)] [] (hp S) _
  refine k_aload_n eX0_begin_0 rfl ?_
  refine k_iconst (v := nI 0) eX0_begin_1 (by decide) ?_
  refine PX0_22 eX0_begin_2 rfl ?_
  refine k_aload_n eX0_begin_5 rfl ?_
  refine k_iload_n eX0_begin_6 rfl ?_
  refine cV1 (M' := MX0_has) eX0_begin_7 mX0_37 wX0_has vX0_has ⟨_, _, _, rfl, rfl, rfl⟩ rfl (pX0_has (S := (si S 203 (nI 0))) (nI p)) (by decide) (Nat.le_of_ble_eq_true rfl) ?_
  refine k_ifb_eq 22 eX0_begin_10 (by decide) (fun c_10 => by exact absurd ⟨nI_pos' (by omega), by show nI p < S.1 201; rw [hpk]; exact nI_lt hpp (by omega)⟩ c_10) (fun c_10 => ?_)
  refine k_iload_n eX0_begin_13 rfl ?_
  refine k_iconst (v := nI 0) eX0_begin_14 (by decide) ?_
  refine k_iconst (v := nI 3) eX0_begin_15 (by decide) ?_
  refine cN1 (M' := MX11_within) eX0_begin_16 mX0_41 wX11_within sX11_within rfl (pX11_within (nI 3) (nI 0) (nI 3)) (by decide) (Nat.le_of_ble_eq_true rfl) ?_
  refine k_ifb_ne 24 eX0_begin_19 (by decide) (fun c_19 => ?_) (fun c_19 => by exact absurd ⟨by decide, by decide⟩ c_19)
  refine k_aload_n eX0_begin_24 rfl ?_
  refine k_iload_n eX0_begin_25 rfl ?_
  refine PX0_45 eX0_begin_26 rfl ?_
  refine k_aload_n eX0_begin_29 rfl ?_
  refine k_aload_n eX0_begin_30 rfl ?_
  refine k_iload_n eX0_begin_31 rfl ?_
  refine cV1 (M' := MX0_kindOf) eX0_begin_32 mX0_48 wX0_kindOf vX0_kindOf ⟨_, _, _, rfl, rfl, rfl⟩ rfl (pX0_kindOf (S := (si (si S 203 (nI 0)) 204 (nI p))) (j := p) (by omega)) (by decide) (Nat.le_of_ble_eq_true rfl) ?_
  refine k_topi (nI 2) hk ?_
  refine PX0_51 eX0_begin_35 rfl ?_
  refine k_aload_n eX0_begin_38 rfl ?_
  refine k_aload_n eX0_begin_39 rfl ?_
  refine GX0_51 eX0_begin_40 rfl ?_
  refine k_topi (nI 2) rfl ?_
  refine k_iload_n eX0_begin_43 rfl ?_
  refine k_iload_n eX0_begin_44 rfl ?_
  refine k_iconst (v := nI 0) eX0_begin_45 (by decide) ?_
  refine cV1 (M' := MX0_ask) eX0_begin_46 mX0_54 wX0_ask vX0_ask ⟨_, _, _, rfl, rfl, rfl⟩ rfl (pX0_ask_2_2_3 (S := (si (si (si S 203 (nI 0)) 204 (nI p)) 205 (nI 2))) (n := 0) (dep := 0) (nb := nI p) rfl rfl rfl (by decide) (by decide) x) (by decide) (Nat.le_of_ble_eq_true rfl) ?_
  refine k_ireturn eX0_begin_49 rfl rfl ?_
  exact ⟨rfl, rfl⟩
set_option maxHeartbeats 400000 in
theorem pX0_begin_3_0 {S : k_S} {p kn : Nat} (hpk : S.1 201 = nI kn) (hpp : p < kn) (hkn : kn ≤ 50) (hk : S.2.1 5 p = nI 3) (x : Int32) : Sp 16 0 0 MX0_begin [.ref 4, .int (nI p), .int (nI 0), .int (x)] (hp S) (Rt (some (.int (acV 3 0 x (nI p)))) (hp (acS S p 3 0))) := by
  refine Sp_of (by decide +kernel) (Nat.le_of_ble_eq_true rfl) ?_
  show AW none MX0_begin 16 0 0 0 [.ref 4, .int (nI p), .int (nI 0), .int (x)] [] (hp S) _
  refine k_aload_n eX0_begin_0 rfl ?_
  refine k_iconst (v := nI 0) eX0_begin_1 (by decide) ?_
  refine PX0_22 eX0_begin_2 rfl ?_
  refine k_aload_n eX0_begin_5 rfl ?_
  refine k_iload_n eX0_begin_6 rfl ?_
  refine cV1 (M' := MX0_has) eX0_begin_7 mX0_37 wX0_has vX0_has ⟨_, _, _, rfl, rfl, rfl⟩ rfl (pX0_has (S := (si S 203 (nI 0))) (nI p)) (by decide) (Nat.le_of_ble_eq_true rfl) ?_
  refine k_ifb_eq 22 eX0_begin_10 (by decide) (fun c_10 => by exact absurd ⟨nI_pos' (by omega), by show nI p < S.1 201; rw [hpk]; exact nI_lt hpp (by omega)⟩ c_10) (fun c_10 => ?_)
  refine k_iload_n eX0_begin_13 rfl ?_
  refine k_iconst (v := nI 0) eX0_begin_14 (by decide) ?_
  refine k_iconst (v := nI 3) eX0_begin_15 (by decide) ?_
  refine cN1 (M' := MX11_within) eX0_begin_16 mX0_41 wX11_within sX11_within rfl (pX11_within (nI 0) (nI 0) (nI 3)) (by decide) (Nat.le_of_ble_eq_true rfl) ?_
  refine k_ifb_ne 24 eX0_begin_19 (by decide) (fun c_19 => ?_) (fun c_19 => by exact absurd ⟨by decide, by decide⟩ c_19)
  refine k_aload_n eX0_begin_24 rfl ?_
  refine k_iload_n eX0_begin_25 rfl ?_
  refine PX0_45 eX0_begin_26 rfl ?_
  refine k_aload_n eX0_begin_29 rfl ?_
  refine k_aload_n eX0_begin_30 rfl ?_
  refine k_iload_n eX0_begin_31 rfl ?_
  refine cV1 (M' := MX0_kindOf) eX0_begin_32 mX0_48 wX0_kindOf vX0_kindOf ⟨_, _, _, rfl, rfl, rfl⟩ rfl (pX0_kindOf (S := (si (si S 203 (nI 0)) 204 (nI p))) (j := p) (by omega)) (by decide) (Nat.le_of_ble_eq_true rfl) ?_
  refine k_topi (nI 3) hk ?_
  refine PX0_51 eX0_begin_35 rfl ?_
  refine k_aload_n eX0_begin_38 rfl ?_
  refine k_aload_n eX0_begin_39 rfl ?_
  refine GX0_51 eX0_begin_40 rfl ?_
  refine k_topi (nI 3) rfl ?_
  refine k_iload_n eX0_begin_43 rfl ?_
  refine k_iload_n eX0_begin_44 rfl ?_
  refine k_iconst (v := nI 0) eX0_begin_45 (by decide) ?_
  refine cV1 (M' := MX0_ask) eX0_begin_46 mX0_54 wX0_ask vX0_ask ⟨_, _, _, rfl, rfl, rfl⟩ rfl (pX0_ask_3_3_0 (S := (si (si (si S 203 (nI 0)) 204 (nI p)) 205 (nI 3))) (n := 0) (dep := 0) (nb := nI p) rfl rfl rfl (by decide) (by decide) x) (by decide) (Nat.le_of_ble_eq_true rfl) ?_
  refine k_ireturn eX0_begin_49 rfl rfl ?_
  exact ⟨rfl, rfl⟩
set_option maxHeartbeats 400000 in
theorem pX0_begin_3_1 {S : k_S} {p kn : Nat} (hpk : S.1 201 = nI kn) (hpp : p < kn) (hkn : kn ≤ 50) (hk : S.2.1 5 p = nI 3) (x : Int32) : Sp 16 0 0 MX0_begin [.ref 4, .int (nI p), .int (nI 1), .int (x)] (hp S) (Rt (some (.int (acV 3 1 x (nI p)))) (hp (acS S p 3 1))) := by
  refine Sp_of (by decide +kernel) (Nat.le_of_ble_eq_true rfl) ?_
  show AW none MX0_begin 16 0 0 0 [.ref 4, .int (nI p), .int (nI 1), .int (x)] [] (hp S) _
  refine k_aload_n eX0_begin_0 rfl ?_
  refine k_iconst (v := nI 0) eX0_begin_1 (by decide) ?_
  refine PX0_22 eX0_begin_2 rfl ?_
  refine k_aload_n eX0_begin_5 rfl ?_
  refine k_iload_n eX0_begin_6 rfl ?_
  refine cV1 (M' := MX0_has) eX0_begin_7 mX0_37 wX0_has vX0_has ⟨_, _, _, rfl, rfl, rfl⟩ rfl (pX0_has (S := (si S 203 (nI 0))) (nI p)) (by decide) (Nat.le_of_ble_eq_true rfl) ?_
  refine k_ifb_eq 22 eX0_begin_10 (by decide) (fun c_10 => by exact absurd ⟨nI_pos' (by omega), by show nI p < S.1 201; rw [hpk]; exact nI_lt hpp (by omega)⟩ c_10) (fun c_10 => ?_)
  refine k_iload_n eX0_begin_13 rfl ?_
  refine k_iconst (v := nI 0) eX0_begin_14 (by decide) ?_
  refine k_iconst (v := nI 3) eX0_begin_15 (by decide) ?_
  refine cN1 (M' := MX11_within) eX0_begin_16 mX0_41 wX11_within sX11_within rfl (pX11_within (nI 1) (nI 0) (nI 3)) (by decide) (Nat.le_of_ble_eq_true rfl) ?_
  refine k_ifb_ne 24 eX0_begin_19 (by decide) (fun c_19 => ?_) (fun c_19 => by exact absurd ⟨by decide, by decide⟩ c_19)
  refine k_aload_n eX0_begin_24 rfl ?_
  refine k_iload_n eX0_begin_25 rfl ?_
  refine PX0_45 eX0_begin_26 rfl ?_
  refine k_aload_n eX0_begin_29 rfl ?_
  refine k_aload_n eX0_begin_30 rfl ?_
  refine k_iload_n eX0_begin_31 rfl ?_
  refine cV1 (M' := MX0_kindOf) eX0_begin_32 mX0_48 wX0_kindOf vX0_kindOf ⟨_, _, _, rfl, rfl, rfl⟩ rfl (pX0_kindOf (S := (si (si S 203 (nI 0)) 204 (nI p))) (j := p) (by omega)) (by decide) (Nat.le_of_ble_eq_true rfl) ?_
  refine k_topi (nI 3) hk ?_
  refine PX0_51 eX0_begin_35 rfl ?_
  refine k_aload_n eX0_begin_38 rfl ?_
  refine k_aload_n eX0_begin_39 rfl ?_
  refine GX0_51 eX0_begin_40 rfl ?_
  refine k_topi (nI 3) rfl ?_
  refine k_iload_n eX0_begin_43 rfl ?_
  refine k_iload_n eX0_begin_44 rfl ?_
  refine k_iconst (v := nI 0) eX0_begin_45 (by decide) ?_
  refine cV1 (M' := MX0_ask) eX0_begin_46 mX0_54 wX0_ask vX0_ask ⟨_, _, _, rfl, rfl, rfl⟩ rfl (pX0_ask_3_3_1 (S := (si (si (si S 203 (nI 0)) 204 (nI p)) 205 (nI 3))) (n := 0) (dep := 0) (nb := nI p) rfl rfl rfl (by decide) (by decide) x) (by decide) (Nat.le_of_ble_eq_true rfl) ?_
  refine k_ireturn eX0_begin_49 rfl rfl ?_
  exact ⟨rfl, rfl⟩
set_option maxHeartbeats 400000 in
theorem pX0_begin_3_2 {S : k_S} {p kn : Nat} (hpk : S.1 201 = nI kn) (hpp : p < kn) (hkn : kn ≤ 50) (hk : S.2.1 5 p = nI 3) (x : Int32) : Sp 16 0 0 MX0_begin [.ref 4, .int (nI p), .int (nI 2), .int (x)] (hp S) (Rt (some (.int (acV 3 2 x (nI p)))) (hp (acS S p 3 2))) := by
  refine Sp_of (by decide +kernel) (Nat.le_of_ble_eq_true rfl) ?_
  show AW none MX0_begin 16 0 0 0 [.ref 4, .int (nI p), .int (nI 2), .int (x)] [] (hp S) _
  refine k_aload_n eX0_begin_0 rfl ?_
  refine k_iconst (v := nI 0) eX0_begin_1 (by decide) ?_
  refine PX0_22 eX0_begin_2 rfl ?_
  refine k_aload_n eX0_begin_5 rfl ?_
  refine k_iload_n eX0_begin_6 rfl ?_
  refine cV1 (M' := MX0_has) eX0_begin_7 mX0_37 wX0_has vX0_has ⟨_, _, _, rfl, rfl, rfl⟩ rfl (pX0_has (S := (si S 203 (nI 0))) (nI p)) (by decide) (Nat.le_of_ble_eq_true rfl) ?_
  refine k_ifb_eq 22 eX0_begin_10 (by decide) (fun c_10 => by exact absurd ⟨nI_pos' (by omega), by show nI p < S.1 201; rw [hpk]; exact nI_lt hpp (by omega)⟩ c_10) (fun c_10 => ?_)
  refine k_iload_n eX0_begin_13 rfl ?_
  refine k_iconst (v := nI 0) eX0_begin_14 (by decide) ?_
  refine k_iconst (v := nI 3) eX0_begin_15 (by decide) ?_
  refine cN1 (M' := MX11_within) eX0_begin_16 mX0_41 wX11_within sX11_within rfl (pX11_within (nI 2) (nI 0) (nI 3)) (by decide) (Nat.le_of_ble_eq_true rfl) ?_
  refine k_ifb_ne 24 eX0_begin_19 (by decide) (fun c_19 => ?_) (fun c_19 => by exact absurd ⟨by decide, by decide⟩ c_19)
  refine k_aload_n eX0_begin_24 rfl ?_
  refine k_iload_n eX0_begin_25 rfl ?_
  refine PX0_45 eX0_begin_26 rfl ?_
  refine k_aload_n eX0_begin_29 rfl ?_
  refine k_aload_n eX0_begin_30 rfl ?_
  refine k_iload_n eX0_begin_31 rfl ?_
  refine cV1 (M' := MX0_kindOf) eX0_begin_32 mX0_48 wX0_kindOf vX0_kindOf ⟨_, _, _, rfl, rfl, rfl⟩ rfl (pX0_kindOf (S := (si (si S 203 (nI 0)) 204 (nI p))) (j := p) (by omega)) (by decide) (Nat.le_of_ble_eq_true rfl) ?_
  refine k_topi (nI 3) hk ?_
  refine PX0_51 eX0_begin_35 rfl ?_
  refine k_aload_n eX0_begin_38 rfl ?_
  refine k_aload_n eX0_begin_39 rfl ?_
  refine GX0_51 eX0_begin_40 rfl ?_
  refine k_topi (nI 3) rfl ?_
  refine k_iload_n eX0_begin_43 rfl ?_
  refine k_iload_n eX0_begin_44 rfl ?_
  refine k_iconst (v := nI 0) eX0_begin_45 (by decide) ?_
  refine cV1 (M' := MX0_ask) eX0_begin_46 mX0_54 wX0_ask vX0_ask ⟨_, _, _, rfl, rfl, rfl⟩ rfl (pX0_ask_3_3_2 (S := (si (si (si S 203 (nI 0)) 204 (nI p)) 205 (nI 3))) (n := 0) (dep := 0) (nb := nI p) rfl rfl rfl (by decide) (by decide) x) (by decide) (Nat.le_of_ble_eq_true rfl) ?_
  refine k_ireturn eX0_begin_49 rfl rfl ?_
  exact ⟨rfl, rfl⟩
set_option maxHeartbeats 400000 in
theorem pX0_begin_3_3 {S : k_S} {p kn : Nat} (hpk : S.1 201 = nI kn) (hpp : p < kn) (hkn : kn ≤ 50) (hk : S.2.1 5 p = nI 3) (x : Int32) : Sp 16 0 0 MX0_begin [.ref 4, .int (nI p), .int (nI 3), .int (x)] (hp S) (Rt (some (.int (acV 3 3 x (nI p)))) (hp (acS S p 3 3))) := by
  refine Sp_of (by decide +kernel) (Nat.le_of_ble_eq_true rfl) ?_
  show AW none MX0_begin 16 0 0 0 [.ref 4, .int (nI p), .int (nI 3), .int (x)] [] (hp S) _
  refine k_aload_n eX0_begin_0 rfl ?_
  refine k_iconst (v := nI 0) eX0_begin_1 (by decide) ?_
  refine PX0_22 eX0_begin_2 rfl ?_
  refine k_aload_n eX0_begin_5 rfl ?_
  refine k_iload_n eX0_begin_6 rfl ?_
  refine cV1 (M' := MX0_has) eX0_begin_7 mX0_37 wX0_has vX0_has ⟨_, _, _, rfl, rfl, rfl⟩ rfl (pX0_has (S := (si S 203 (nI 0))) (nI p)) (by decide) (Nat.le_of_ble_eq_true rfl) ?_
  refine k_ifb_eq 22 eX0_begin_10 (by decide) (fun c_10 => by exact absurd ⟨nI_pos' (by omega), by show nI p < S.1 201; rw [hpk]; exact nI_lt hpp (by omega)⟩ c_10) (fun c_10 => ?_)
  refine k_iload_n eX0_begin_13 rfl ?_
  refine k_iconst (v := nI 0) eX0_begin_14 (by decide) ?_
  refine k_iconst (v := nI 3) eX0_begin_15 (by decide) ?_
  refine cN1 (M' := MX11_within) eX0_begin_16 mX0_41 wX11_within sX11_within rfl (pX11_within (nI 3) (nI 0) (nI 3)) (by decide) (Nat.le_of_ble_eq_true rfl) ?_
  refine k_ifb_ne 24 eX0_begin_19 (by decide) (fun c_19 => ?_) (fun c_19 => by exact absurd ⟨by decide, by decide⟩ c_19)
  refine k_aload_n eX0_begin_24 rfl ?_
  refine k_iload_n eX0_begin_25 rfl ?_
  refine PX0_45 eX0_begin_26 rfl ?_
  refine k_aload_n eX0_begin_29 rfl ?_
  refine k_aload_n eX0_begin_30 rfl ?_
  refine k_iload_n eX0_begin_31 rfl ?_
  refine cV1 (M' := MX0_kindOf) eX0_begin_32 mX0_48 wX0_kindOf vX0_kindOf ⟨_, _, _, rfl, rfl, rfl⟩ rfl (pX0_kindOf (S := (si (si S 203 (nI 0)) 204 (nI p))) (j := p) (by omega)) (by decide) (Nat.le_of_ble_eq_true rfl) ?_
  refine k_topi (nI 3) hk ?_
  refine PX0_51 eX0_begin_35 rfl ?_
  refine k_aload_n eX0_begin_38 rfl ?_
  refine k_aload_n eX0_begin_39 rfl ?_
  refine GX0_51 eX0_begin_40 rfl ?_
  refine k_topi (nI 3) rfl ?_
  refine k_iload_n eX0_begin_43 rfl ?_
  refine k_iload_n eX0_begin_44 rfl ?_
  refine k_iconst (v := nI 0) eX0_begin_45 (by decide) ?_
  refine cV1 (M' := MX0_ask) eX0_begin_46 mX0_54 wX0_ask vX0_ask ⟨_, _, _, rfl, rfl, rfl⟩ rfl (pX0_ask_3_3_3 (S := (si (si (si S 203 (nI 0)) 204 (nI p)) 205 (nI 3))) (n := 0) (dep := 0) (nb := nI p) rfl rfl rfl (by decide) (by decide) x) (by decide) (Nat.le_of_ble_eq_true rfl) ?_
  refine k_ireturn eX0_begin_49 rfl rfl ?_
  exact ⟨rfl, rfl⟩
set_option maxHeartbeats 400000 in
theorem pX0_begin_4_0 {S : k_S} {p kn : Nat} (hpk : S.1 201 = nI kn) (hpp : p < kn) (hkn : kn ≤ 50) (hk : S.2.1 5 p = nI 4) (x : Int32) : Sp 16 0 0 MX0_begin [.ref 4, .int (nI p), .int (nI 0), .int (x)] (hp S) (Rt (some (.int (acV 4 0 x (nI p)))) (hp (acS S p 4 0))) := by
  refine Sp_of (by decide +kernel) (Nat.le_of_ble_eq_true rfl) ?_
  show AW none MX0_begin 16 0 0 0 [.ref 4, .int (nI p), .int (nI 0), .int (x)] [] (hp S) _
  refine k_aload_n eX0_begin_0 rfl ?_
  refine k_iconst (v := nI 0) eX0_begin_1 (by decide) ?_
  refine PX0_22 eX0_begin_2 rfl ?_
  refine k_aload_n eX0_begin_5 rfl ?_
  refine k_iload_n eX0_begin_6 rfl ?_
  refine cV1 (M' := MX0_has) eX0_begin_7 mX0_37 wX0_has vX0_has ⟨_, _, _, rfl, rfl, rfl⟩ rfl (pX0_has (S := (si S 203 (nI 0))) (nI p)) (by decide) (Nat.le_of_ble_eq_true rfl) ?_
  refine k_ifb_eq 22 eX0_begin_10 (by decide) (fun c_10 => by exact absurd ⟨nI_pos' (by omega), by show nI p < S.1 201; rw [hpk]; exact nI_lt hpp (by omega)⟩ c_10) (fun c_10 => ?_)
  refine k_iload_n eX0_begin_13 rfl ?_
  refine k_iconst (v := nI 0) eX0_begin_14 (by decide) ?_
  refine k_iconst (v := nI 3) eX0_begin_15 (by decide) ?_
  refine cN1 (M' := MX11_within) eX0_begin_16 mX0_41 wX11_within sX11_within rfl (pX11_within (nI 0) (nI 0) (nI 3)) (by decide) (Nat.le_of_ble_eq_true rfl) ?_
  refine k_ifb_ne 24 eX0_begin_19 (by decide) (fun c_19 => ?_) (fun c_19 => by exact absurd ⟨by decide, by decide⟩ c_19)
  refine k_aload_n eX0_begin_24 rfl ?_
  refine k_iload_n eX0_begin_25 rfl ?_
  refine PX0_45 eX0_begin_26 rfl ?_
  refine k_aload_n eX0_begin_29 rfl ?_
  refine k_aload_n eX0_begin_30 rfl ?_
  refine k_iload_n eX0_begin_31 rfl ?_
  refine cV1 (M' := MX0_kindOf) eX0_begin_32 mX0_48 wX0_kindOf vX0_kindOf ⟨_, _, _, rfl, rfl, rfl⟩ rfl (pX0_kindOf (S := (si (si S 203 (nI 0)) 204 (nI p))) (j := p) (by omega)) (by decide) (Nat.le_of_ble_eq_true rfl) ?_
  refine k_topi (nI 4) hk ?_
  refine PX0_51 eX0_begin_35 rfl ?_
  refine k_aload_n eX0_begin_38 rfl ?_
  refine k_aload_n eX0_begin_39 rfl ?_
  refine GX0_51 eX0_begin_40 rfl ?_
  refine k_topi (nI 4) rfl ?_
  refine k_iload_n eX0_begin_43 rfl ?_
  refine k_iload_n eX0_begin_44 rfl ?_
  refine k_iconst (v := nI 0) eX0_begin_45 (by decide) ?_
  refine cV1 (M' := MX0_ask) eX0_begin_46 mX0_54 wX0_ask vX0_ask ⟨_, _, _, rfl, rfl, rfl⟩ rfl (pX0_ask_4_4_0 (S := (si (si (si S 203 (nI 0)) 204 (nI p)) 205 (nI 4))) (n := 0) (dep := 0) (nb := nI p) rfl rfl rfl (by decide) (by decide) x) (by decide) (Nat.le_of_ble_eq_true rfl) ?_
  refine k_ireturn eX0_begin_49 rfl rfl ?_
  exact ⟨rfl, rfl⟩
set_option maxHeartbeats 400000 in
theorem pX0_begin_4_1 {S : k_S} {p kn : Nat} (hpk : S.1 201 = nI kn) (hpp : p < kn) (hkn : kn ≤ 50) (hk : S.2.1 5 p = nI 4) (x : Int32) : Sp 16 0 0 MX0_begin [.ref 4, .int (nI p), .int (nI 1), .int (x)] (hp S) (Rt (some (.int (acV 4 1 x (nI p)))) (hp (acS S p 4 1))) := by
  refine Sp_of (by decide +kernel) (Nat.le_of_ble_eq_true rfl) ?_
  show AW none MX0_begin 16 0 0 0 [.ref 4, .int (nI p), .int (nI 1), .int (x)] [] (hp S) _
  refine k_aload_n eX0_begin_0 rfl ?_
  refine k_iconst (v := nI 0) eX0_begin_1 (by decide) ?_
  refine PX0_22 eX0_begin_2 rfl ?_
  refine k_aload_n eX0_begin_5 rfl ?_
  refine k_iload_n eX0_begin_6 rfl ?_
  refine cV1 (M' := MX0_has) eX0_begin_7 mX0_37 wX0_has vX0_has ⟨_, _, _, rfl, rfl, rfl⟩ rfl (pX0_has (S := (si S 203 (nI 0))) (nI p)) (by decide) (Nat.le_of_ble_eq_true rfl) ?_
  refine k_ifb_eq 22 eX0_begin_10 (by decide) (fun c_10 => by exact absurd ⟨nI_pos' (by omega), by show nI p < S.1 201; rw [hpk]; exact nI_lt hpp (by omega)⟩ c_10) (fun c_10 => ?_)
  refine k_iload_n eX0_begin_13 rfl ?_
  refine k_iconst (v := nI 0) eX0_begin_14 (by decide) ?_
  refine k_iconst (v := nI 3) eX0_begin_15 (by decide) ?_
  refine cN1 (M' := MX11_within) eX0_begin_16 mX0_41 wX11_within sX11_within rfl (pX11_within (nI 1) (nI 0) (nI 3)) (by decide) (Nat.le_of_ble_eq_true rfl) ?_
  refine k_ifb_ne 24 eX0_begin_19 (by decide) (fun c_19 => ?_) (fun c_19 => by exact absurd ⟨by decide, by decide⟩ c_19)
  refine k_aload_n eX0_begin_24 rfl ?_
  refine k_iload_n eX0_begin_25 rfl ?_
  refine PX0_45 eX0_begin_26 rfl ?_
  refine k_aload_n eX0_begin_29 rfl ?_
  refine k_aload_n eX0_begin_30 rfl ?_
  refine k_iload_n eX0_begin_31 rfl ?_
  refine cV1 (M' := MX0_kindOf) eX0_begin_32 mX0_48 wX0_kindOf vX0_kindOf ⟨_, _, _, rfl, rfl, rfl⟩ rfl (pX0_kindOf (S := (si (si S 203 (nI 0)) 204 (nI p))) (j := p) (by omega)) (by decide) (Nat.le_of_ble_eq_true rfl) ?_
  refine k_topi (nI 4) hk ?_
  refine PX0_51 eX0_begin_35 rfl ?_
  refine k_aload_n eX0_begin_38 rfl ?_
  refine k_aload_n eX0_begin_39 rfl ?_
  refine GX0_51 eX0_begin_40 rfl ?_
  refine k_topi (nI 4) rfl ?_
  refine k_iload_n eX0_begin_43 rfl ?_
  refine k_iload_n eX0_begin_44 rfl ?_
  refine k_iconst (v := nI 0) eX0_begin_45 (by decide) ?_
  refine cV1 (M' := MX0_ask) eX0_begin_46 mX0_54 wX0_ask vX0_ask ⟨_, _, _, rfl, rfl, rfl⟩ rfl (pX0_ask_4_4_1 (S := (si (si (si S 203 (nI 0)) 204 (nI p)) 205 (nI 4))) (n := 0) (dep := 0) (nb := nI p) rfl rfl rfl (by decide) (by decide) x) (by decide) (Nat.le_of_ble_eq_true rfl) ?_
  refine k_ireturn eX0_begin_49 rfl rfl ?_
  exact ⟨rfl, rfl⟩
set_option maxHeartbeats 400000 in
theorem pX0_begin_4_2 {S : k_S} {p kn : Nat} (hpk : S.1 201 = nI kn) (hpp : p < kn) (hkn : kn ≤ 50) (hk : S.2.1 5 p = nI 4) (x : Int32) : Sp 16 0 0 MX0_begin [.ref 4, .int (nI p), .int (nI 2), .int (x)] (hp S) (Rt (some (.int (acV 4 2 x (nI p)))) (hp (acS S p 4 2))) := by
  refine Sp_of (by decide +kernel) (Nat.le_of_ble_eq_true rfl) ?_
  show AW none MX0_begin 16 0 0 0 [.ref 4, .int (nI p), .int (nI 2), .int (x)] [] (hp S) _
  refine k_aload_n eX0_begin_0 rfl ?_
  refine k_iconst (v := nI 0) eX0_begin_1 (by decide) ?_
  refine PX0_22 eX0_begin_2 rfl ?_
  refine k_aload_n eX0_begin_5 rfl ?_
  refine k_iload_n eX0_begin_6 rfl ?_
  refine cV1 (M' := MX0_has) eX0_begin_7 mX0_37 wX0_has vX0_has ⟨_, _, _, rfl, rfl, rfl⟩ rfl (pX0_has (S := (si S 203 (nI 0))) (nI p)) (by decide) (Nat.le_of_ble_eq_true rfl) ?_
  refine k_ifb_eq 22 eX0_begin_10 (by decide) (fun c_10 => by exact absurd ⟨nI_pos' (by omega), by show nI p < S.1 201; rw [hpk]; exact nI_lt hpp (by omega)⟩ c_10) (fun c_10 => ?_)
  refine k_iload_n eX0_begin_13 rfl ?_
  refine k_iconst (v := nI 0) eX0_begin_14 (by decide) ?_
  refine k_iconst (v := nI 3) eX0_begin_15 (by decide) ?_
  refine cN1 (M' := MX11_within) eX0_begin_16 mX0_41 wX11_within sX11_within rfl (pX11_within (nI 2) (nI 0) (nI 3)) (by decide) (Nat.le_of_ble_eq_true rfl) ?_
  refine k_ifb_ne 24 eX0_begin_19 (by decide) (fun c_19 => ?_) (fun c_19 => by exact absurd ⟨by decide, by decide⟩ c_19)
  refine k_aload_n eX0_begin_24 rfl ?_
  refine k_iload_n eX0_begin_25 rfl ?_
  refine PX0_45 eX0_begin_26 rfl ?_
  refine k_aload_n eX0_begin_29 rfl ?_
  refine k_aload_n eX0_begin_30 rfl ?_
  refine k_iload_n eX0_begin_31 rfl ?_
  refine cV1 (M' := MX0_kindOf) eX0_begin_32 mX0_48 wX0_kindOf vX0_kindOf ⟨_, _, _, rfl, rfl, rfl⟩ rfl (pX0_kindOf (S := (si (si S 203 (nI 0)) 204 (nI p))) (j := p) (by omega)) (by decide) (Nat.le_of_ble_eq_true rfl) ?_
  refine k_topi (nI 4) hk ?_
  refine PX0_51 eX0_begin_35 rfl ?_
  refine k_aload_n eX0_begin_38 rfl ?_
  refine k_aload_n eX0_begin_39 rfl ?_
  refine GX0_51 eX0_begin_40 rfl ?_
  refine k_topi (nI 4) rfl ?_
  refine k_iload_n eX0_begin_43 rfl ?_
  refine k_iload_n eX0_begin_44 rfl ?_
  refine k_iconst (v := nI 0) eX0_begin_45 (by decide) ?_
  refine cV1 (M' := MX0_ask) eX0_begin_46 mX0_54 wX0_ask vX0_ask ⟨_, _, _, rfl, rfl, rfl⟩ rfl (pX0_ask_4_4_2 (S := (si (si (si S 203 (nI 0)) 204 (nI p)) 205 (nI 4))) (n := 0) (dep := 0) (nb := nI p) rfl rfl rfl (by decide) (by decide) x) (by decide) (Nat.le_of_ble_eq_true rfl) ?_
  refine k_ireturn eX0_begin_49 rfl rfl ?_
  exact ⟨rfl, rfl⟩
set_option maxHeartbeats 400000 in
theorem pX0_begin_4_3 {S : k_S} {p kn : Nat} (hpk : S.1 201 = nI kn) (hpp : p < kn) (hkn : kn ≤ 50) (hk : S.2.1 5 p = nI 4) (x : Int32) : Sp 16 0 0 MX0_begin [.ref 4, .int (nI p), .int (nI 3), .int (x)] (hp S) (Rt (some (.int (acV 4 3 x (nI p)))) (hp (acS S p 4 3))) := by
  refine Sp_of (by decide +kernel) (Nat.le_of_ble_eq_true rfl) ?_
  show AW none MX0_begin 16 0 0 0 [.ref 4, .int (nI p), .int (nI 3), .int (x)] [] (hp S) _
  refine k_aload_n eX0_begin_0 rfl ?_
  refine k_iconst (v := nI 0) eX0_begin_1 (by decide) ?_
  refine PX0_22 eX0_begin_2 rfl ?_
  refine k_aload_n eX0_begin_5 rfl ?_
  refine k_iload_n eX0_begin_6 rfl ?_
  refine cV1 (M' := MX0_has) eX0_begin_7 mX0_37 wX0_has vX0_has ⟨_, _, _, rfl, rfl, rfl⟩ rfl (pX0_has (S := (si S 203 (nI 0))) (nI p)) (by decide) (Nat.le_of_ble_eq_true rfl) ?_
  refine k_ifb_eq 22 eX0_begin_10 (by decide) (fun c_10 => by exact absurd ⟨nI_pos' (by omega), by show nI p < S.1 201; rw [hpk]; exact nI_lt hpp (by omega)⟩ c_10) (fun c_10 => ?_)
  refine k_iload_n eX0_begin_13 rfl ?_
  refine k_iconst (v := nI 0) eX0_begin_14 (by decide) ?_
  refine k_iconst (v := nI 3) eX0_begin_15 (by decide) ?_
  refine cN1 (M' := MX11_within) eX0_begin_16 mX0_41 wX11_within sX11_within rfl (pX11_within (nI 3) (nI 0) (nI 3)) (by decide) (Nat.le_of_ble_eq_true rfl) ?_
  refine k_ifb_ne 24 eX0_begin_19 (by decide) (fun c_19 => ?_) (fun c_19 => by exact absurd ⟨by decide, by decide⟩ c_19)
  refine k_aload_n eX0_begin_24 rfl ?_
  refine k_iload_n eX0_begin_25 rfl ?_
  refine PX0_45 eX0_begin_26 rfl ?_
  refine k_aload_n eX0_begin_29 rfl ?_
  refine k_aload_n eX0_begin_30 rfl ?_
  refine k_iload_n eX0_begin_31 rfl ?_
  refine cV1 (M' := MX0_kindOf) eX0_begin_32 mX0_48 wX0_kindOf vX0_kindOf ⟨_, _, _, rfl, rfl, rfl⟩ rfl (pX0_kindOf (S := (si (si S 203 (nI 0)) 204 (nI p))) (j := p) (by omega)) (by decide) (Nat.le_of_ble_eq_true rfl) ?_
  refine k_topi (nI 4) hk ?_
  refine PX0_51 eX0_begin_35 rfl ?_
  refine k_aload_n eX0_begin_38 rfl ?_
  refine k_aload_n eX0_begin_39 rfl ?_
  refine GX0_51 eX0_begin_40 rfl ?_
  refine k_topi (nI 4) rfl ?_
  refine k_iload_n eX0_begin_43 rfl ?_
  refine k_iload_n eX0_begin_44 rfl ?_
  refine k_iconst (v := nI 0) eX0_begin_45 (by decide) ?_
  refine cV1 (M' := MX0_ask) eX0_begin_46 mX0_54 wX0_ask vX0_ask ⟨_, _, _, rfl, rfl, rfl⟩ rfl (pX0_ask_4_4_3 (S := (si (si (si S 203 (nI 0)) 204 (nI p)) 205 (nI 4))) (n := 0) (dep := 0) (nb := nI p) rfl rfl rfl (by decide) (by decide) x) (by decide) (Nat.le_of_ble_eq_true rfl) ?_
  refine k_ireturn eX0_begin_49 rfl rfl ?_
  exact ⟨rfl, rfl⟩
set_option maxHeartbeats 400000 in
theorem pX0_begin_5_0 {S : k_S} {p kn : Nat} (hpk : S.1 201 = nI kn) (hpp : p < kn) (hkn : kn ≤ 50) (hk : S.2.1 5 p = nI 5) (x : Int32) : Sp 16 0 0 MX0_begin [.ref 4, .int (nI p), .int (nI 0), .int (x)] (hp S) (Rt (some (.int (acV 5 0 x (nI p)))) (hp (acS S p 5 0))) := by
  refine Sp_of (by decide +kernel) (Nat.le_of_ble_eq_true rfl) ?_
  show AW none MX0_begin 16 0 0 0 [.ref 4, .int (nI p), .int (nI 0), .int (x)] [] (hp S) _
  refine k_aload_n eX0_begin_0 rfl ?_
  refine k_iconst (v := nI 0) eX0_begin_1 (by decide) ?_
  refine PX0_22 eX0_begin_2 rfl ?_
  refine k_aload_n eX0_begin_5 rfl ?_
  refine k_iload_n eX0_begin_6 rfl ?_
  refine cV1 (M' := MX0_has) eX0_begin_7 mX0_37 wX0_has vX0_has ⟨_, _, _, rfl, rfl, rfl⟩ rfl (pX0_has (S := (si S 203 (nI 0))) (nI p)) (by decide) (Nat.le_of_ble_eq_true rfl) ?_
  refine k_ifb_eq 22 eX0_begin_10 (by decide) (fun c_10 => by exact absurd ⟨nI_pos' (by omega), by show nI p < S.1 201; rw [hpk]; exact nI_lt hpp (by omega)⟩ c_10) (fun c_10 => ?_)
  refine k_iload_n eX0_begin_13 rfl ?_
  refine k_iconst (v := nI 0) eX0_begin_14 (by decide) ?_
  refine k_iconst (v := nI 3) eX0_begin_15 (by decide) ?_
  refine cN1 (M' := MX11_within) eX0_begin_16 mX0_41 wX11_within sX11_within rfl (pX11_within (nI 0) (nI 0) (nI 3)) (by decide) (Nat.le_of_ble_eq_true rfl) ?_
  refine k_ifb_ne 24 eX0_begin_19 (by decide) (fun c_19 => ?_) (fun c_19 => by exact absurd ⟨by decide, by decide⟩ c_19)
  refine k_aload_n eX0_begin_24 rfl ?_
  refine k_iload_n eX0_begin_25 rfl ?_
  refine PX0_45 eX0_begin_26 rfl ?_
  refine k_aload_n eX0_begin_29 rfl ?_
  refine k_aload_n eX0_begin_30 rfl ?_
  refine k_iload_n eX0_begin_31 rfl ?_
  refine cV1 (M' := MX0_kindOf) eX0_begin_32 mX0_48 wX0_kindOf vX0_kindOf ⟨_, _, _, rfl, rfl, rfl⟩ rfl (pX0_kindOf (S := (si (si S 203 (nI 0)) 204 (nI p))) (j := p) (by omega)) (by decide) (Nat.le_of_ble_eq_true rfl) ?_
  refine k_topi (nI 5) hk ?_
  refine PX0_51 eX0_begin_35 rfl ?_
  refine k_aload_n eX0_begin_38 rfl ?_
  refine k_aload_n eX0_begin_39 rfl ?_
  refine GX0_51 eX0_begin_40 rfl ?_
  refine k_topi (nI 5) rfl ?_
  refine k_iload_n eX0_begin_43 rfl ?_
  refine k_iload_n eX0_begin_44 rfl ?_
  refine k_iconst (v := nI 0) eX0_begin_45 (by decide) ?_
  refine cV1 (M' := MX0_ask) eX0_begin_46 mX0_54 wX0_ask vX0_ask ⟨_, _, _, rfl, rfl, rfl⟩ rfl (pX0_ask_5_5_0 (S := (si (si (si S 203 (nI 0)) 204 (nI p)) 205 (nI 5))) (n := 0) (dep := 0) (nb := nI p) rfl rfl rfl (by decide) (by decide) x) (by decide) (Nat.le_of_ble_eq_true rfl) ?_
  refine k_ireturn eX0_begin_49 rfl rfl ?_
  exact ⟨rfl, rfl⟩
set_option maxHeartbeats 400000 in
theorem pX0_begin_5_1 {S : k_S} {p kn : Nat} (hpk : S.1 201 = nI kn) (hpp : p < kn) (hkn : kn ≤ 50) (hk : S.2.1 5 p = nI 5) (x : Int32) : Sp 16 0 0 MX0_begin [.ref 4, .int (nI p), .int (nI 1), .int (x)] (hp S) (Rt (some (.int (acV 5 1 x (nI p)))) (hp (acS S p 5 1))) := by
  refine Sp_of (by decide +kernel) (Nat.le_of_ble_eq_true rfl) ?_
  show AW none MX0_begin 16 0 0 0 [.ref 4, .int (nI p), .int (nI 1), .int (x)] [] (hp S) _
  refine k_aload_n eX0_begin_0 rfl ?_
  refine k_iconst (v := nI 0) eX0_begin_1 (by decide) ?_
  refine PX0_22 eX0_begin_2 rfl ?_
  refine k_aload_n eX0_begin_5 rfl ?_
  refine k_iload_n eX0_begin_6 rfl ?_
  refine cV1 (M' := MX0_has) eX0_begin_7 mX0_37 wX0_has vX0_has ⟨_, _, _, rfl, rfl, rfl⟩ rfl (pX0_has (S := (si S 203 (nI 0))) (nI p)) (by decide) (Nat.le_of_ble_eq_true rfl) ?_
  refine k_ifb_eq 22 eX0_begin_10 (by decide) (fun c_10 => by exact absurd ⟨nI_pos' (by omega), by show nI p < S.1 201; rw [hpk]; exact nI_lt hpp (by omega)⟩ c_10) (fun c_10 => ?_)
  refine k_iload_n eX0_begin_13 rfl ?_
  refine k_iconst (v := nI 0) eX0_begin_14 (by decide) ?_
  refine k_iconst (v := nI 3) eX0_begin_15 (by decide) ?_
  refine cN1 (M' := MX11_within) eX0_begin_16 mX0_41 wX11_within sX11_within rfl (pX11_within (nI 1) (nI 0) (nI 3)) (by decide) (Nat.le_of_ble_eq_true rfl) ?_
  refine k_ifb_ne 24 eX0_begin_19 (by decide) (fun c_19 => ?_) (fun c_19 => by exact absurd ⟨by decide, by decide⟩ c_19)
  refine k_aload_n eX0_begin_24 rfl ?_
  refine k_iload_n eX0_begin_25 rfl ?_
  refine PX0_45 eX0_begin_26 rfl ?_
  refine k_aload_n eX0_begin_29 rfl ?_
  refine k_aload_n eX0_begin_30 rfl ?_
  refine k_iload_n eX0_begin_31 rfl ?_
  refine cV1 (M' := MX0_kindOf) eX0_begin_32 mX0_48 wX0_kindOf vX0_kindOf ⟨_, _, _, rfl, rfl, rfl⟩ rfl (pX0_kindOf (S := (si (si S 203 (nI 0)) 204 (nI p))) (j := p) (by omega)) (by decide) (Nat.le_of_ble_eq_true rfl) ?_
  refine k_topi (nI 5) hk ?_
  refine PX0_51 eX0_begin_35 rfl ?_
  refine k_aload_n eX0_begin_38 rfl ?_
  refine k_aload_n eX0_begin_39 rfl ?_
  refine GX0_51 eX0_begin_40 rfl ?_
  refine k_topi (nI 5) rfl ?_
  refine k_iload_n eX0_begin_43 rfl ?_
  refine k_iload_n eX0_begin_44 rfl ?_
  refine k_iconst (v := nI 0) eX0_begin_45 (by decide) ?_
  refine cV1 (M' := MX0_ask) eX0_begin_46 mX0_54 wX0_ask vX0_ask ⟨_, _, _, rfl, rfl, rfl⟩ rfl (pX0_ask_5_5_1 (S := (si (si (si S 203 (nI 0)) 204 (nI p)) 205 (nI 5))) (n := 0) (dep := 0) (nb := nI p) rfl rfl rfl (by decide) (by decide) x) (by decide) (Nat.le_of_ble_eq_true rfl) ?_
  refine k_ireturn eX0_begin_49 rfl rfl ?_
  exact ⟨rfl, rfl⟩
set_option maxHeartbeats 400000 in
theorem pX0_begin_5_2 {S : k_S} {p kn : Nat} (hpk : S.1 201 = nI kn) (hpp : p < kn) (hkn : kn ≤ 50) (hk : S.2.1 5 p = nI 5) (x : Int32) : Sp 16 0 0 MX0_begin [.ref 4, .int (nI p), .int (nI 2), .int (x)] (hp S) (Rt (some (.int (acV 5 2 x (nI p)))) (hp (acS S p 5 2))) := by
  refine Sp_of (by decide +kernel) (Nat.le_of_ble_eq_true rfl) ?_
  show AW none MX0_begin 16 0 0 0 [.ref 4, .int (nI p), .int (nI 2), .int (x)] [] (hp S) _
  refine k_aload_n eX0_begin_0 rfl ?_
  refine k_iconst (v := nI 0) eX0_begin_1 (by decide) ?_
  refine PX0_22 eX0_begin_2 rfl ?_
  refine k_aload_n eX0_begin_5 rfl ?_
  refine k_iload_n eX0_begin_6 rfl ?_
  refine cV1 (M' := MX0_has) eX0_begin_7 mX0_37 wX0_has vX0_has ⟨_, _, _, rfl, rfl, rfl⟩ rfl (pX0_has (S := (si S 203 (nI 0))) (nI p)) (by decide) (Nat.le_of_ble_eq_true rfl) ?_
  refine k_ifb_eq 22 eX0_begin_10 (by decide) (fun c_10 => by exact absurd ⟨nI_pos' (by omega), by show nI p < S.1 201; rw [hpk]; exact nI_lt hpp (by omega)⟩ c_10) (fun c_10 => ?_)
  refine k_iload_n eX0_begin_13 rfl ?_
  refine k_iconst (v := nI 0) eX0_begin_14 (by decide) ?_
  refine k_iconst (v := nI 3) eX0_begin_15 (by decide) ?_
  refine cN1 (M' := MX11_within) eX0_begin_16 mX0_41 wX11_within sX11_within rfl (pX11_within (nI 2) (nI 0) (nI 3)) (by decide) (Nat.le_of_ble_eq_true rfl) ?_
  refine k_ifb_ne 24 eX0_begin_19 (by decide) (fun c_19 => ?_) (fun c_19 => by exact absurd ⟨by decide, by decide⟩ c_19)
  refine k_aload_n eX0_begin_24 rfl ?_
  refine k_iload_n eX0_begin_25 rfl ?_
  refine PX0_45 eX0_begin_26 rfl ?_
  refine k_aload_n eX0_begin_29 rfl ?_
  refine k_aload_n eX0_begin_30 rfl ?_
  refine k_iload_n eX0_begin_31 rfl ?_
  refine cV1 (M' := MX0_kindOf) eX0_begin_32 mX0_48 wX0_kindOf vX0_kindOf ⟨_, _, _, rfl, rfl, rfl⟩ rfl (pX0_kindOf (S := (si (si S 203 (nI 0)) 204 (nI p))) (j := p) (by omega)) (by decide) (Nat.le_of_ble_eq_true rfl) ?_
  refine k_topi (nI 5) hk ?_
  refine PX0_51 eX0_begin_35 rfl ?_
  refine k_aload_n eX0_begin_38 rfl ?_
  refine k_aload_n eX0_begin_39 rfl ?_
  refine GX0_51 eX0_begin_40 rfl ?_
  refine k_topi (nI 5) rfl ?_
  refine k_iload_n eX0_begin_43 rfl ?_
  refine k_iload_n eX0_begin_44 rfl ?_
  refine k_iconst (v := nI 0) eX0_begin_45 (by decide) ?_
  refine cV1 (M' := MX0_ask) eX0_begin_46 mX0_54 wX0_ask vX0_ask ⟨_, _, _, rfl, rfl, rfl⟩ rfl (pX0_ask_5_5_2 (S := (si (si (si S 203 (nI 0)) 204 (nI p)) 205 (nI 5))) (n := 0) (dep := 0) (nb := nI p) rfl rfl rfl (by decide) (by decide) x) (by decide) (Nat.le_of_ble_eq_true rfl) ?_
  refine k_ireturn eX0_begin_49 rfl rfl ?_
  exact ⟨rfl, rfl⟩
set_option maxHeartbeats 400000 in
theorem pX0_begin_5_3 {S : k_S} {p kn : Nat} (hpk : S.1 201 = nI kn) (hpp : p < kn) (hkn : kn ≤ 50) (hk : S.2.1 5 p = nI 5) (x : Int32) : Sp 16 0 0 MX0_begin [.ref 4, .int (nI p), .int (nI 3), .int (x)] (hp S) (Rt (some (.int (acV 5 3 x (nI p)))) (hp (acS S p 5 3))) := by
  refine Sp_of (by decide +kernel) (Nat.le_of_ble_eq_true rfl) ?_
  show AW none MX0_begin 16 0 0 0 [.ref 4, .int (nI p), .int (nI 3), .int (x)] [] (hp S) _
  refine k_aload_n eX0_begin_0 rfl ?_
  refine k_iconst (v := nI 0) eX0_begin_1 (by decide) ?_
  refine PX0_22 eX0_begin_2 rfl ?_
  refine k_aload_n eX0_begin_5 rfl ?_
  refine k_iload_n eX0_begin_6 rfl ?_
  refine cV1 (M' := MX0_has) eX0_begin_7 mX0_37 wX0_has vX0_has ⟨_, _, _, rfl, rfl, rfl⟩ rfl (pX0_has (S := (si S 203 (nI 0))) (nI p)) (by decide) (Nat.le_of_ble_eq_true rfl) ?_
  refine k_ifb_eq 22 eX0_begin_10 (by decide) (fun c_10 => by exact absurd ⟨nI_pos' (by omega), by show nI p < S.1 201; rw [hpk]; exact nI_lt hpp (by omega)⟩ c_10) (fun c_10 => ?_)
  refine k_iload_n eX0_begin_13 rfl ?_
  refine k_iconst (v := nI 0) eX0_begin_14 (by decide) ?_
  refine k_iconst (v := nI 3) eX0_begin_15 (by decide) ?_
  refine cN1 (M' := MX11_within) eX0_begin_16 mX0_41 wX11_within sX11_within rfl (pX11_within (nI 3) (nI 0) (nI 3)) (by decide) (Nat.le_of_ble_eq_true rfl) ?_
  refine k_ifb_ne 24 eX0_begin_19 (by decide) (fun c_19 => ?_) (fun c_19 => by exact absurd ⟨by decide, by decide⟩ c_19)
  refine k_aload_n eX0_begin_24 rfl ?_
  refine k_iload_n eX0_begin_25 rfl ?_
  refine PX0_45 eX0_begin_26 rfl ?_
  refine k_aload_n eX0_begin_29 rfl ?_
  refine k_aload_n eX0_begin_30 rfl ?_
  refine k_iload_n eX0_begin_31 rfl ?_
  refine cV1 (M' := MX0_kindOf) eX0_begin_32 mX0_48 wX0_kindOf vX0_kindOf ⟨_, _, _, rfl, rfl, rfl⟩ rfl (pX0_kindOf (S := (si (si S 203 (nI 0)) 204 (nI p))) (j := p) (by omega)) (by decide) (Nat.le_of_ble_eq_true rfl) ?_
  refine k_topi (nI 5) hk ?_
  refine PX0_51 eX0_begin_35 rfl ?_
  refine k_aload_n eX0_begin_38 rfl ?_
  refine k_aload_n eX0_begin_39 rfl ?_
  refine GX0_51 eX0_begin_40 rfl ?_
  refine k_topi (nI 5) rfl ?_
  refine k_iload_n eX0_begin_43 rfl ?_
  refine k_iload_n eX0_begin_44 rfl ?_
  refine k_iconst (v := nI 0) eX0_begin_45 (by decide) ?_
  refine cV1 (M' := MX0_ask) eX0_begin_46 mX0_54 wX0_ask vX0_ask ⟨_, _, _, rfl, rfl, rfl⟩ rfl (pX0_ask_5_5_3 (S := (si (si (si S 203 (nI 0)) 204 (nI p)) 205 (nI 5))) (n := 0) (dep := 0) (nb := nI p) rfl rfl rfl (by decide) (by decide) x) (by decide) (Nat.le_of_ble_eq_true rfl) ?_
  refine k_ireturn eX0_begin_49 rfl rfl ?_
  exact ⟨rfl, rfl⟩
set_option maxHeartbeats 400000 in
theorem pX0_begin_6_0 {S : k_S} {p kn : Nat} (hpk : S.1 201 = nI kn) (hpp : p < kn) (hkn : kn ≤ 50) (hk : S.2.1 5 p = nI 6) (x : Int32) : Sp 16 0 0 MX0_begin [.ref 4, .int (nI p), .int (nI 0), .int (x)] (hp S) (Rt (some (.int (acV 6 0 x (nI p)))) (hp (acS S p 6 0))) := by
  refine Sp_of (by decide +kernel) (Nat.le_of_ble_eq_true rfl) ?_
  show AW none MX0_begin 16 0 0 0 [.ref 4, .int (nI p), .int (nI 0), .int (x)] [] (hp S) _
  refine k_aload_n eX0_begin_0 rfl ?_
  refine k_iconst (v := nI 0) eX0_begin_1 (by decide) ?_
  refine PX0_22 eX0_begin_2 rfl ?_
  refine k_aload_n eX0_begin_5 rfl ?_
  refine k_iload_n eX0_begin_6 rfl ?_
  refine cV1 (M' := MX0_has) eX0_begin_7 mX0_37 wX0_has vX0_has ⟨_, _, _, rfl, rfl, rfl⟩ rfl (pX0_has (S := (si S 203 (nI 0))) (nI p)) (by decide) (Nat.le_of_ble_eq_true rfl) ?_
  refine k_ifb_eq 22 eX0_begin_10 (by decide) (fun c_10 => by exact absurd ⟨nI_pos' (by omega), by show nI p < S.1 201; rw [hpk]; exact nI_lt hpp (by omega)⟩ c_10) (fun c_10 => ?_)
  refine k_iload_n eX0_begin_13 rfl ?_
  refine k_iconst (v := nI 0) eX0_begin_14 (by decide) ?_
  refine k_iconst (v := nI 3) eX0_begin_15 (by decide) ?_
  refine cN1 (M' := MX11_within) eX0_begin_16 mX0_41 wX11_within sX11_within rfl (pX11_within (nI 0) (nI 0) (nI 3)) (by decide) (Nat.le_of_ble_eq_true rfl) ?_
  refine k_ifb_ne 24 eX0_begin_19 (by decide) (fun c_19 => ?_) (fun c_19 => by exact absurd ⟨by decide, by decide⟩ c_19)
  refine k_aload_n eX0_begin_24 rfl ?_
  refine k_iload_n eX0_begin_25 rfl ?_
  refine PX0_45 eX0_begin_26 rfl ?_
  refine k_aload_n eX0_begin_29 rfl ?_
  refine k_aload_n eX0_begin_30 rfl ?_
  refine k_iload_n eX0_begin_31 rfl ?_
  refine cV1 (M' := MX0_kindOf) eX0_begin_32 mX0_48 wX0_kindOf vX0_kindOf ⟨_, _, _, rfl, rfl, rfl⟩ rfl (pX0_kindOf (S := (si (si S 203 (nI 0)) 204 (nI p))) (j := p) (by omega)) (by decide) (Nat.le_of_ble_eq_true rfl) ?_
  refine k_topi (nI 6) hk ?_
  refine PX0_51 eX0_begin_35 rfl ?_
  refine k_aload_n eX0_begin_38 rfl ?_
  refine k_aload_n eX0_begin_39 rfl ?_
  refine GX0_51 eX0_begin_40 rfl ?_
  refine k_topi (nI 6) rfl ?_
  refine k_iload_n eX0_begin_43 rfl ?_
  refine k_iload_n eX0_begin_44 rfl ?_
  refine k_iconst (v := nI 0) eX0_begin_45 (by decide) ?_
  refine cV1 (M' := MX0_ask) eX0_begin_46 mX0_54 wX0_ask vX0_ask ⟨_, _, _, rfl, rfl, rfl⟩ rfl (pX0_ask_6_6_0 (S := (si (si (si S 203 (nI 0)) 204 (nI p)) 205 (nI 6))) (n := 0) (dep := 0) (nb := nI p) rfl rfl rfl (by decide) (by decide) x) (by decide) (Nat.le_of_ble_eq_true rfl) ?_
  refine k_ireturn eX0_begin_49 rfl rfl ?_
  exact ⟨rfl, rfl⟩
set_option maxHeartbeats 400000 in
theorem pX0_begin_6_1 {S : k_S} {p kn : Nat} (hpk : S.1 201 = nI kn) (hpp : p < kn) (hkn : kn ≤ 50) (hk : S.2.1 5 p = nI 6) (x : Int32) : Sp 16 0 0 MX0_begin [.ref 4, .int (nI p), .int (nI 1), .int (x)] (hp S) (Rt (some (.int (acV 6 1 x (nI p)))) (hp (acS S p 6 1))) := by
  refine Sp_of (by decide +kernel) (Nat.le_of_ble_eq_true rfl) ?_
  show AW none MX0_begin 16 0 0 0 [.ref 4, .int (nI p), .int (nI 1), .int (x)] [] (hp S) _
  refine k_aload_n eX0_begin_0 rfl ?_
  refine k_iconst (v := nI 0) eX0_begin_1 (by decide) ?_
  refine PX0_22 eX0_begin_2 rfl ?_
  refine k_aload_n eX0_begin_5 rfl ?_
  refine k_iload_n eX0_begin_6 rfl ?_
  refine cV1 (M' := MX0_has) eX0_begin_7 mX0_37 wX0_has vX0_has ⟨_, _, _, rfl, rfl, rfl⟩ rfl (pX0_has (S := (si S 203 (nI 0))) (nI p)) (by decide) (Nat.le_of_ble_eq_true rfl) ?_
  refine k_ifb_eq 22 eX0_begin_10 (by decide) (fun c_10 => by exact absurd ⟨nI_pos' (by omega), by show nI p < S.1 201; rw [hpk]; exact nI_lt hpp (by omega)⟩ c_10) (fun c_10 => ?_)
  refine k_iload_n eX0_begin_13 rfl ?_
  refine k_iconst (v := nI 0) eX0_begin_14 (by decide) ?_
  refine k_iconst (v := nI 3) eX0_begin_15 (by decide) ?_
  refine cN1 (M' := MX11_within) eX0_begin_16 mX0_41 wX11_within sX11_within rfl (pX11_within (nI 1) (nI 0) (nI 3)) (by decide) (Nat.le_of_ble_eq_true rfl) ?_
  refine k_ifb_ne 24 eX0_begin_19 (by decide) (fun c_19 => ?_) (fun c_19 => by exact absurd ⟨by decide, by decide⟩ c_19)
  refine k_aload_n eX0_begin_24 rfl ?_
  refine k_iload_n eX0_begin_25 rfl ?_
  refine PX0_45 eX0_begin_26 rfl ?_
  refine k_aload_n eX0_begin_29 rfl ?_
  refine k_aload_n eX0_begin_30 rfl ?_
  refine k_iload_n eX0_begin_31 rfl ?_
  refine cV1 (M' := MX0_kindOf) eX0_begin_32 mX0_48 wX0_kindOf vX0_kindOf ⟨_, _, _, rfl, rfl, rfl⟩ rfl (pX0_kindOf (S := (si (si S 203 (nI 0)) 204 (nI p))) (j := p) (by omega)) (by decide) (Nat.le_of_ble_eq_true rfl) ?_
  refine k_topi (nI 6) hk ?_
  refine PX0_51 eX0_begin_35 rfl ?_
  refine k_aload_n eX0_begin_38 rfl ?_
  refine k_aload_n eX0_begin_39 rfl ?_
  refine GX0_51 eX0_begin_40 rfl ?_
  refine k_topi (nI 6) rfl ?_
  refine k_iload_n eX0_begin_43 rfl ?_
  refine k_iload_n eX0_begin_44 rfl ?_
  refine k_iconst (v := nI 0) eX0_begin_45 (by decide) ?_
  refine cV1 (M' := MX0_ask) eX0_begin_46 mX0_54 wX0_ask vX0_ask ⟨_, _, _, rfl, rfl, rfl⟩ rfl (pX0_ask_6_6_1 (S := (si (si (si S 203 (nI 0)) 204 (nI p)) 205 (nI 6))) (n := 0) (dep := 0) (nb := nI p) rfl rfl rfl (by decide) (by decide) x) (by decide) (Nat.le_of_ble_eq_true rfl) ?_
  refine k_ireturn eX0_begin_49 rfl rfl ?_
  exact ⟨rfl, rfl⟩
set_option maxHeartbeats 400000 in
theorem pX0_begin_6_2 {S : k_S} {p kn : Nat} (hpk : S.1 201 = nI kn) (hpp : p < kn) (hkn : kn ≤ 50) (hk : S.2.1 5 p = nI 6) (x : Int32) : Sp 16 0 0 MX0_begin [.ref 4, .int (nI p), .int (nI 2), .int (x)] (hp S) (Rt (some (.int (acV 6 2 x (nI p)))) (hp (acS S p 6 2))) := by
  refine Sp_of (by decide +kernel) (Nat.le_of_ble_eq_true rfl) ?_
  show AW none MX0_begin 16 0 0 0 [.ref 4, .int (nI p), .int (nI 2), .int (x)] [] (hp S) _
  refine k_aload_n eX0_begin_0 rfl ?_
  refine k_iconst (v := nI 0) eX0_begin_1 (by decide) ?_
  refine PX0_22 eX0_begin_2 rfl ?_
  refine k_aload_n eX0_begin_5 rfl ?_
  refine k_iload_n eX0_begin_6 rfl ?_
  refine cV1 (M' := MX0_has) eX0_begin_7 mX0_37 wX0_has vX0_has ⟨_, _, _, rfl, rfl, rfl⟩ rfl (pX0_has (S := (si S 203 (nI 0))) (nI p)) (by decide) (Nat.le_of_ble_eq_true rfl) ?_
  refine k_ifb_eq 22 eX0_begin_10 (by decide) (fun c_10 => by exact absurd ⟨nI_pos' (by omega), by show nI p < S.1 201; rw [hpk]; exact nI_lt hpp (by omega)⟩ c_10) (fun c_10 => ?_)
  refine k_iload_n eX0_begin_13 rfl ?_
  refine k_iconst (v := nI 0) eX0_begin_14 (by decide) ?_
  refine k_iconst (v := nI 3) eX0_begin_15 (by decide) ?_
  refine cN1 (M' := MX11_within) eX0_begin_16 mX0_41 wX11_within sX11_within rfl (pX11_within (nI 2) (nI 0) (nI 3)) (by decide) (Nat.le_of_ble_eq_true rfl) ?_
  refine k_ifb_ne 24 eX0_begin_19 (by decide) (fun c_19 => ?_) (fun c_19 => by exact absurd ⟨by decide, by decide⟩ c_19)
  refine k_aload_n eX0_begin_24 rfl ?_
  refine k_iload_n eX0_begin_25 rfl ?_
  refine PX0_45 eX0_begin_26 rfl ?_
  refine k_aload_n eX0_begin_29 rfl ?_
  refine k_aload_n eX0_begin_30 rfl ?_
  refine k_iload_n eX0_begin_31 rfl ?_
  refine cV1 (M' := MX0_kindOf) eX0_begin_32 mX0_48 wX0_kindOf vX0_kindOf ⟨_, _, _, rfl, rfl, rfl⟩ rfl (pX0_kindOf (S := (si (si S 203 (nI 0)) 204 (nI p))) (j := p) (by omega)) (by decide) (Nat.le_of_ble_eq_true rfl) ?_
  refine k_topi (nI 6) hk ?_
  refine PX0_51 eX0_begin_35 rfl ?_
  refine k_aload_n eX0_begin_38 rfl ?_
  refine k_aload_n eX0_begin_39 rfl ?_
  refine GX0_51 eX0_begin_40 rfl ?_
  refine k_topi (nI 6) rfl ?_
  refine k_iload_n eX0_begin_43 rfl ?_
  refine k_iload_n eX0_begin_44 rfl ?_
  refine k_iconst (v := nI 0) eX0_begin_45 (by decide) ?_
  refine cV1 (M' := MX0_ask) eX0_begin_46 mX0_54 wX0_ask vX0_ask ⟨_, _, _, rfl, rfl, rfl⟩ rfl (pX0_ask_6_6_2 (S := (si (si (si S 203 (nI 0)) 204 (nI p)) 205 (nI 6))) (n := 0) (dep := 0) (nb := nI p) rfl rfl rfl (by decide) (by decide) x) (by decide) (Nat.le_of_ble_eq_true rfl) ?_
  refine k_ireturn eX0_begin_49 rfl rfl ?_
  exact ⟨rfl, rfl⟩
set_option maxHeartbeats 400000 in
theorem pX0_begin_6_3 {S : k_S} {p kn : Nat} (hpk : S.1 201 = nI kn) (hpp : p < kn) (hkn : kn ≤ 50) (hk : S.2.1 5 p = nI 6) (x : Int32) : Sp 16 0 0 MX0_begin [.ref 4, .int (nI p), .int (nI 3), .int (x)] (hp S) (Rt (some (.int (acV 6 3 x (nI p)))) (hp (acS S p 6 3))) := by
  refine Sp_of (by decide +kernel) (Nat.le_of_ble_eq_true rfl) ?_
  show AW none MX0_begin 16 0 0 0 [.ref 4, .int (nI p), .int (nI 3), .int (x)] [] (hp S) _
  refine k_aload_n eX0_begin_0 rfl ?_
  refine k_iconst (v := nI 0) eX0_begin_1 (by decide) ?_
  refine PX0_22 eX0_begin_2 rfl ?_
  refine k_aload_n eX0_begin_5 rfl ?_
  refine k_iload_n eX0_begin_6 rfl ?_
  refine cV1 (M' := MX0_has) eX0_begin_7 mX0_37 wX0_has vX0_has ⟨_, _, _, rfl, rfl, rfl⟩ rfl (pX0_has (S := (si S 203 (nI 0))) (nI p)) (by decide) (Nat.le_of_ble_eq_true rfl) ?_
  refine k_ifb_eq 22 eX0_begin_10 (by decide) (fun c_10 => by exact absurd ⟨nI_pos' (by omega), by show nI p < S.1 201; rw [hpk]; exact nI_lt hpp (by omega)⟩ c_10) (fun c_10 => ?_)
  refine k_iload_n eX0_begin_13 rfl ?_
  refine k_iconst (v := nI 0) eX0_begin_14 (by decide) ?_
  refine k_iconst (v := nI 3) eX0_begin_15 (by decide) ?_
  refine cN1 (M' := MX11_within) eX0_begin_16 mX0_41 wX11_within sX11_within rfl (pX11_within (nI 3) (nI 0) (nI 3)) (by decide) (Nat.le_of_ble_eq_true rfl) ?_
  refine k_ifb_ne 24 eX0_begin_19 (by decide) (fun c_19 => ?_) (fun c_19 => by exact absurd ⟨by decide, by decide⟩ c_19)
  refine k_aload_n eX0_begin_24 rfl ?_
  refine k_iload_n eX0_begin_25 rfl ?_
  refine PX0_45 eX0_begin_26 rfl ?_
  refine k_aload_n eX0_begin_29 rfl ?_
  refine k_aload_n eX0_begin_30 rfl ?_
  refine k_iload_n eX0_begin_31 rfl ?_
  refine cV1 (M' := MX0_kindOf) eX0_begin_32 mX0_48 wX0_kindOf vX0_kindOf ⟨_, _, _, rfl, rfl, rfl⟩ rfl (pX0_kindOf (S := (si (si S 203 (nI 0)) 204 (nI p))) (j := p) (by omega)) (by decide) (Nat.le_of_ble_eq_true rfl) ?_
  refine k_topi (nI 6) hk ?_
  refine PX0_51 eX0_begin_35 rfl ?_
  refine k_aload_n eX0_begin_38 rfl ?_
  refine k_aload_n eX0_begin_39 rfl ?_
  refine GX0_51 eX0_begin_40 rfl ?_
  refine k_topi (nI 6) rfl ?_
  refine k_iload_n eX0_begin_43 rfl ?_
  refine k_iload_n eX0_begin_44 rfl ?_
  refine k_iconst (v := nI 0) eX0_begin_45 (by decide) ?_
  refine cV1 (M' := MX0_ask) eX0_begin_46 mX0_54 wX0_ask vX0_ask ⟨_, _, _, rfl, rfl, rfl⟩ rfl (pX0_ask_6_6_3 (S := (si (si (si S 203 (nI 0)) 204 (nI p)) 205 (nI 6))) (n := 0) (dep := 0) (nb := nI p) rfl rfl rfl (by decide) (by decide) x) (by decide) (Nat.le_of_ble_eq_true rfl) ?_
  refine k_ireturn eX0_begin_49 rfl rfl ?_
  exact ⟨rfl, rfl⟩
set_option maxHeartbeats 400000 in
theorem pX0_begin_7_0 {S : k_S} {p kn : Nat} (hpk : S.1 201 = nI kn) (hpp : p < kn) (hkn : kn ≤ 50) (hk : S.2.1 5 p = nI 7) (x : Int32) : Sp 16 0 0 MX0_begin [.ref 4, .int (nI p), .int (nI 0), .int (x)] (hp S) (Rt (some (.int (acV 7 0 x (nI p)))) (hp (acS S p 7 0))) := by
  refine Sp_of (by decide +kernel) (Nat.le_of_ble_eq_true rfl) ?_
  show AW none MX0_begin 16 0 0 0 [.ref 4, .int (nI p), .int (nI 0), .int (x)] [] (hp S) _
  refine k_aload_n eX0_begin_0 rfl ?_
  refine k_iconst (v := nI 0) eX0_begin_1 (by decide) ?_
  refine PX0_22 eX0_begin_2 rfl ?_
  refine k_aload_n eX0_begin_5 rfl ?_
  refine k_iload_n eX0_begin_6 rfl ?_
  refine cV1 (M' := MX0_has) eX0_begin_7 mX0_37 wX0_has vX0_has ⟨_, _, _, rfl, rfl, rfl⟩ rfl (pX0_has (S := (si S 203 (nI 0))) (nI p)) (by decide) (Nat.le_of_ble_eq_true rfl) ?_
  refine k_ifb_eq 22 eX0_begin_10 (by decide) (fun c_10 => by exact absurd ⟨nI_pos' (by omega), by show nI p < S.1 201; rw [hpk]; exact nI_lt hpp (by omega)⟩ c_10) (fun c_10 => ?_)
  refine k_iload_n eX0_begin_13 rfl ?_
  refine k_iconst (v := nI 0) eX0_begin_14 (by decide) ?_
  refine k_iconst (v := nI 3) eX0_begin_15 (by decide) ?_
  refine cN1 (M' := MX11_within) eX0_begin_16 mX0_41 wX11_within sX11_within rfl (pX11_within (nI 0) (nI 0) (nI 3)) (by decide) (Nat.le_of_ble_eq_true rfl) ?_
  refine k_ifb_ne 24 eX0_begin_19 (by decide) (fun c_19 => ?_) (fun c_19 => by exact absurd ⟨by decide, by decide⟩ c_19)
  refine k_aload_n eX0_begin_24 rfl ?_
  refine k_iload_n eX0_begin_25 rfl ?_
  refine PX0_45 eX0_begin_26 rfl ?_
  refine k_aload_n eX0_begin_29 rfl ?_
  refine k_aload_n eX0_begin_30 rfl ?_
  refine k_iload_n eX0_begin_31 rfl ?_
  refine cV1 (M' := MX0_kindOf) eX0_begin_32 mX0_48 wX0_kindOf vX0_kindOf ⟨_, _, _, rfl, rfl, rfl⟩ rfl (pX0_kindOf (S := (si (si S 203 (nI 0)) 204 (nI p))) (j := p) (by omega)) (by decide) (Nat.le_of_ble_eq_true rfl) ?_
  refine k_topi (nI 7) hk ?_
  refine PX0_51 eX0_begin_35 rfl ?_
  refine k_aload_n eX0_begin_38 rfl ?_
  refine k_aload_n eX0_begin_39 rfl ?_
  refine GX0_51 eX0_begin_40 rfl ?_
  refine k_topi (nI 7) rfl ?_
  refine k_iload_n eX0_begin_43 rfl ?_
  refine k_iload_n eX0_begin_44 rfl ?_
  refine k_iconst (v := nI 0) eX0_begin_45 (by decide) ?_
  refine cV1 (M' := MX0_ask) eX0_begin_46 mX0_54 wX0_ask vX0_ask ⟨_, _, _, rfl, rfl, rfl⟩ rfl (pX0_ask_7_7_0 (S := (si (si (si S 203 (nI 0)) 204 (nI p)) 205 (nI 7))) (n := 0) (dep := 0) (nb := nI p) rfl rfl rfl (by decide) (by decide) x) (by decide) (Nat.le_of_ble_eq_true rfl) ?_
  refine k_ireturn eX0_begin_49 rfl rfl ?_
  exact ⟨rfl, rfl⟩
set_option maxHeartbeats 400000 in
theorem pX0_begin_7_1 {S : k_S} {p kn : Nat} (hpk : S.1 201 = nI kn) (hpp : p < kn) (hkn : kn ≤ 50) (hk : S.2.1 5 p = nI 7) (x : Int32) : Sp 16 0 0 MX0_begin [.ref 4, .int (nI p), .int (nI 1), .int (x)] (hp S) (Rt (some (.int (acV 7 1 x (nI p)))) (hp (acS S p 7 1))) := by
  refine Sp_of (by decide +kernel) (Nat.le_of_ble_eq_true rfl) ?_
  show AW none MX0_begin 16 0 0 0 [.ref 4, .int (nI p), .int (nI 1), .int (x)] [] (hp S) _
  refine k_aload_n eX0_begin_0 rfl ?_
  refine k_iconst (v := nI 0) eX0_begin_1 (by decide) ?_
  refine PX0_22 eX0_begin_2 rfl ?_
  refine k_aload_n eX0_begin_5 rfl ?_
  refine k_iload_n eX0_begin_6 rfl ?_
  refine cV1 (M' := MX0_has) eX0_begin_7 mX0_37 wX0_has vX0_has ⟨_, _, _, rfl, rfl, rfl⟩ rfl (pX0_has (S := (si S 203 (nI 0))) (nI p)) (by decide) (Nat.le_of_ble_eq_true rfl) ?_
  refine k_ifb_eq 22 eX0_begin_10 (by decide) (fun c_10 => by exact absurd ⟨nI_pos' (by omega), by show nI p < S.1 201; rw [hpk]; exact nI_lt hpp (by omega)⟩ c_10) (fun c_10 => ?_)
  refine k_iload_n eX0_begin_13 rfl ?_
  refine k_iconst (v := nI 0) eX0_begin_14 (by decide) ?_
  refine k_iconst (v := nI 3) eX0_begin_15 (by decide) ?_
  refine cN1 (M' := MX11_within) eX0_begin_16 mX0_41 wX11_within sX11_within rfl (pX11_within (nI 1) (nI 0) (nI 3)) (by decide) (Nat.le_of_ble_eq_true rfl) ?_
  refine k_ifb_ne 24 eX0_begin_19 (by decide) (fun c_19 => ?_) (fun c_19 => by exact absurd ⟨by decide, by decide⟩ c_19)
  refine k_aload_n eX0_begin_24 rfl ?_
  refine k_iload_n eX0_begin_25 rfl ?_
  refine PX0_45 eX0_begin_26 rfl ?_
  refine k_aload_n eX0_begin_29 rfl ?_
  refine k_aload_n eX0_begin_30 rfl ?_
  refine k_iload_n eX0_begin_31 rfl ?_
  refine cV1 (M' := MX0_kindOf) eX0_begin_32 mX0_48 wX0_kindOf vX0_kindOf ⟨_, _, _, rfl, rfl, rfl⟩ rfl (pX0_kindOf (S := (si (si S 203 (nI 0)) 204 (nI p))) (j := p) (by omega)) (by decide) (Nat.le_of_ble_eq_true rfl) ?_
  refine k_topi (nI 7) hk ?_
  refine PX0_51 eX0_begin_35 rfl ?_
  refine k_aload_n eX0_begin_38 rfl ?_
  refine k_aload_n eX0_begin_39 rfl ?_
  refine GX0_51 eX0_begin_40 rfl ?_
  refine k_topi (nI 7) rfl ?_
  refine k_iload_n eX0_begin_43 rfl ?_
  refine k_iload_n eX0_begin_44 rfl ?_
  refine k_iconst (v := nI 0) eX0_begin_45 (by decide) ?_
  refine cV1 (M' := MX0_ask) eX0_begin_46 mX0_54 wX0_ask vX0_ask ⟨_, _, _, rfl, rfl, rfl⟩ rfl (pX0_ask_7_7_1 (S := (si (si (si S 203 (nI 0)) 204 (nI p)) 205 (nI 7))) (n := 0) (dep := 0) (nb := nI p) rfl rfl rfl (by decide) (by decide) x) (by decide) (Nat.le_of_ble_eq_true rfl) ?_
  refine k_ireturn eX0_begin_49 rfl rfl ?_
  exact ⟨rfl, rfl⟩
set_option maxHeartbeats 400000 in
theorem pX0_begin_7_2 {S : k_S} {p kn : Nat} (hpk : S.1 201 = nI kn) (hpp : p < kn) (hkn : kn ≤ 50) (hk : S.2.1 5 p = nI 7) (x : Int32) : Sp 16 0 0 MX0_begin [.ref 4, .int (nI p), .int (nI 2), .int (x)] (hp S) (Rt (some (.int (acV 7 2 x (nI p)))) (hp (acS S p 7 2))) := by
  refine Sp_of (by decide +kernel) (Nat.le_of_ble_eq_true rfl) ?_
  show AW none MX0_begin 16 0 0 0 [.ref 4, .int (nI p), .int (nI 2), .int (x)] [] (hp S) _
  refine k_aload_n eX0_begin_0 rfl ?_
  refine k_iconst (v := nI 0) eX0_begin_1 (by decide) ?_
  refine PX0_22 eX0_begin_2 rfl ?_
  refine k_aload_n eX0_begin_5 rfl ?_
  refine k_iload_n eX0_begin_6 rfl ?_
  refine cV1 (M' := MX0_has) eX0_begin_7 mX0_37 wX0_has vX0_has ⟨_, _, _, rfl, rfl, rfl⟩ rfl (pX0_has (S := (si S 203 (nI 0))) (nI p)) (by decide) (Nat.le_of_ble_eq_true rfl) ?_
  refine k_ifb_eq 22 eX0_begin_10 (by decide) (fun c_10 => by exact absurd ⟨nI_pos' (by omega), by show nI p < S.1 201; rw [hpk]; exact nI_lt hpp (by omega)⟩ c_10) (fun c_10 => ?_)
  refine k_iload_n eX0_begin_13 rfl ?_
  refine k_iconst (v := nI 0) eX0_begin_14 (by decide) ?_
  refine k_iconst (v := nI 3) eX0_begin_15 (by decide) ?_
  refine cN1 (M' := MX11_within) eX0_begin_16 mX0_41 wX11_within sX11_within rfl (pX11_within (nI 2) (nI 0) (nI 3)) (by decide) (Nat.le_of_ble_eq_true rfl) ?_
  refine k_ifb_ne 24 eX0_begin_19 (by decide) (fun c_19 => ?_) (fun c_19 => by exact absurd ⟨by decide, by decide⟩ c_19)
  refine k_aload_n eX0_begin_24 rfl ?_
  refine k_iload_n eX0_begin_25 rfl ?_
  refine PX0_45 eX0_begin_26 rfl ?_
  refine k_aload_n eX0_begin_29 rfl ?_
  refine k_aload_n eX0_begin_30 rfl ?_
  refine k_iload_n eX0_begin_31 rfl ?_
  refine cV1 (M' := MX0_kindOf) eX0_begin_32 mX0_48 wX0_kindOf vX0_kindOf ⟨_, _, _, rfl, rfl, rfl⟩ rfl (pX0_kindOf (S := (si (si S 203 (nI 0)) 204 (nI p))) (j := p) (by omega)) (by decide) (Nat.le_of_ble_eq_true rfl) ?_
  refine k_topi (nI 7) hk ?_
  refine PX0_51 eX0_begin_35 rfl ?_
  refine k_aload_n eX0_begin_38 rfl ?_
  refine k_aload_n eX0_begin_39 rfl ?_
  refine GX0_51 eX0_begin_40 rfl ?_
  refine k_topi (nI 7) rfl ?_
  refine k_iload_n eX0_begin_43 rfl ?_
  refine k_iload_n eX0_begin_44 rfl ?_
  refine k_iconst (v := nI 0) eX0_begin_45 (by decide) ?_
  refine cV1 (M' := MX0_ask) eX0_begin_46 mX0_54 wX0_ask vX0_ask ⟨_, _, _, rfl, rfl, rfl⟩ rfl (pX0_ask_7_7_2 (S := (si (si (si S 203 (nI 0)) 204 (nI p)) 205 (nI 7))) (n := 0) (dep := 0) (nb := nI p) rfl rfl rfl (by decide) (by decide) x) (by decide) (Nat.le_of_ble_eq_true rfl) ?_
  refine k_ireturn eX0_begin_49 rfl rfl ?_
  exact ⟨rfl, rfl⟩
set_option maxHeartbeats 400000 in
theorem pX0_begin_7_3 {S : k_S} {p kn : Nat} (hpk : S.1 201 = nI kn) (hpp : p < kn) (hkn : kn ≤ 50) (hk : S.2.1 5 p = nI 7) (x : Int32) : Sp 16 0 0 MX0_begin [.ref 4, .int (nI p), .int (nI 3), .int (x)] (hp S) (Rt (some (.int (acV 7 3 x (nI p)))) (hp (acS S p 7 3))) := by
  refine Sp_of (by decide +kernel) (Nat.le_of_ble_eq_true rfl) ?_
  show AW none MX0_begin 16 0 0 0 [.ref 4, .int (nI p), .int (nI 3), .int (x)] [] (hp S) _
  refine k_aload_n eX0_begin_0 rfl ?_
  refine k_iconst (v := nI 0) eX0_begin_1 (by decide) ?_
  refine PX0_22 eX0_begin_2 rfl ?_
  refine k_aload_n eX0_begin_5 rfl ?_
  refine k_iload_n eX0_begin_6 rfl ?_
  refine cV1 (M' := MX0_has) eX0_begin_7 mX0_37 wX0_has vX0_has ⟨_, _, _, rfl, rfl, rfl⟩ rfl (pX0_has (S := (si S 203 (nI 0))) (nI p)) (by decide) (Nat.le_of_ble_eq_true rfl) ?_
  refine k_ifb_eq 22 eX0_begin_10 (by decide) (fun c_10 => by exact absurd ⟨nI_pos' (by omega), by show nI p < S.1 201; rw [hpk]; exact nI_lt hpp (by omega)⟩ c_10) (fun c_10 => ?_)
  refine k_iload_n eX0_begin_13 rfl ?_
  refine k_iconst (v := nI 0) eX0_begin_14 (by decide) ?_
  refine k_iconst (v := nI 3) eX0_begin_15 (by decide) ?_
  refine cN1 (M' := MX11_within) eX0_begin_16 mX0_41 wX11_within sX11_within rfl (pX11_within (nI 3) (nI 0) (nI 3)) (by decide) (Nat.le_of_ble_eq_true rfl) ?_
  refine k_ifb_ne 24 eX0_begin_19 (by decide) (fun c_19 => ?_) (fun c_19 => by exact absurd ⟨by decide, by decide⟩ c_19)
  refine k_aload_n eX0_begin_24 rfl ?_
  refine k_iload_n eX0_begin_25 rfl ?_
  refine PX0_45 eX0_begin_26 rfl ?_
  refine k_aload_n eX0_begin_29 rfl ?_
  refine k_aload_n eX0_begin_30 rfl ?_
  refine k_iload_n eX0_begin_31 rfl ?_
  refine cV1 (M' := MX0_kindOf) eX0_begin_32 mX0_48 wX0_kindOf vX0_kindOf ⟨_, _, _, rfl, rfl, rfl⟩ rfl (pX0_kindOf (S := (si (si S 203 (nI 0)) 204 (nI p))) (j := p) (by omega)) (by decide) (Nat.le_of_ble_eq_true rfl) ?_
  refine k_topi (nI 7) hk ?_
  refine PX0_51 eX0_begin_35 rfl ?_
  refine k_aload_n eX0_begin_38 rfl ?_
  refine k_aload_n eX0_begin_39 rfl ?_
  refine GX0_51 eX0_begin_40 rfl ?_
  refine k_topi (nI 7) rfl ?_
  refine k_iload_n eX0_begin_43 rfl ?_
  refine k_iload_n eX0_begin_44 rfl ?_
  refine k_iconst (v := nI 0) eX0_begin_45 (by decide) ?_
  refine cV1 (M' := MX0_ask) eX0_begin_46 mX0_54 wX0_ask vX0_ask ⟨_, _, _, rfl, rfl, rfl⟩ rfl (pX0_ask_7_7_3 (S := (si (si (si S 203 (nI 0)) 204 (nI p)) 205 (nI 7))) (n := 0) (dep := 0) (nb := nI p) rfl rfl rfl (by decide) (by decide) x) (by decide) (Nat.le_of_ble_eq_true rfl) ?_
  refine k_ireturn eX0_begin_49 rfl rfl ?_
  exact ⟨rfl, rfl⟩
theorem pX0_begin {S : k_S} {p kn K s : Nat} (hpk : S.1 201 = nI kn) (hpp : p < kn) (hkn : kn ≤ 50) (hk : S.2.1 5 p = nI K) (hK : K < 8) (hs : s < 4) (x : Int32) : Sp 16 0 0 MX0_begin [.ref 4, .int (nI p), .int (nI s), .int x] (hp S) (Rt (some (.int (acV K s x (nI p)))) (hp (acS S p K s))) := by
  rcases (by omega : K = 0 ∨ K = 1 ∨ K = 2 ∨ K = 3 ∨ K = 4 ∨ K = 5 ∨ K = 6 ∨ K = 7) with rfl | rfl | rfl | rfl | rfl | rfl | rfl | rfl <;> rcases (by omega : s = 0 ∨ s = 1 ∨ s = 2 ∨ s = 3) with rfl | rfl | rfl | rfl
  · exact (pX0_begin_0_0 hpk hpp hkn hk x)
  · exact (pX0_begin_0_1 hpk hpp hkn hk x)
  · exact (pX0_begin_0_2 hpk hpp hkn hk x)
  · exact (pX0_begin_0_3 hpk hpp hkn hk x)
  · exact (pX0_begin_1_0 hpk hpp hkn hk x)
  · exact (pX0_begin_1_1 hpk hpp hkn hk x)
  · exact (pX0_begin_1_2 hpk hpp hkn hk x)
  · exact (pX0_begin_1_3 hpk hpp hkn hk x)
  · exact (pX0_begin_2_0 hpk hpp hkn hk x)
  · exact (pX0_begin_2_1 hpk hpp hkn hk x)
  · exact (pX0_begin_2_2 hpk hpp hkn hk x)
  · exact (pX0_begin_2_3 hpk hpp hkn hk x)
  · exact (pX0_begin_3_0 hpk hpp hkn hk x)
  · exact (pX0_begin_3_1 hpk hpp hkn hk x)
  · exact (pX0_begin_3_2 hpk hpp hkn hk x)
  · exact (pX0_begin_3_3 hpk hpp hkn hk x)
  · exact (pX0_begin_4_0 hpk hpp hkn hk x)
  · exact (pX0_begin_4_1 hpk hpp hkn hk x)
  · exact (pX0_begin_4_2 hpk hpp hkn hk x)
  · exact (pX0_begin_4_3 hpk hpp hkn hk x)
  · exact (pX0_begin_5_0 hpk hpp hkn hk x)
  · exact (pX0_begin_5_1 hpk hpp hkn hk x)
  · exact (pX0_begin_5_2 hpk hpp hkn hk x)
  · exact (pX0_begin_5_3 hpk hpp hkn hk x)
  · exact (pX0_begin_6_0 hpk hpp hkn hk x)
  · exact (pX0_begin_6_1 hpk hpp hkn hk x)
  · exact (pX0_begin_6_2 hpk hpp hkn hk x)
  · exact (pX0_begin_6_3 hpk hpp hkn hk x)
  · exact (pX0_begin_7_0 hpk hpp hkn hk x)
  · exact (pX0_begin_7_1 hpk hpp hkn hk x)
  · exact (pX0_begin_7_2 hpk hpp hkn hk x)
  · exact (pX0_begin_7_3 hpk hpp hkn hk x)
set_option maxHeartbeats 400000 in
theorem pX0_beginN {S : k_S} (p s x : Int32) (hb : ¬ (pW (S.1 201) p ∧ pIn s (nI 0) (nI 3))) : Sp 1 0 0 MX0_begin [.ref 4, .int (p), .int (s), .int (x)] (hp S) (Rt (some (.int (nI 0))) (hp (si S 203 (nI 0)))) := by
  refine Sp_of (by decide +kernel) (Nat.le_of_ble_eq_true rfl) ?_
  show AW none MX0_begin 1 0 0 0 [.ref 4, .int (p), .int (s), .int (x)] [] (hp S) _
  refine k_aload_n eX0_begin_0 rfl ?_
  refine k_iconst (v := nI 0) eX0_begin_1 (by decide) ?_
  refine PX0_22 eX0_begin_2 rfl ?_
  refine k_aload_n eX0_begin_5 rfl ?_
  refine k_iload_n eX0_begin_6 rfl ?_
  refine cV1 (M' := MX0_has) eX0_begin_7 mX0_37 wX0_has vX0_has ⟨_, _, _, rfl, rfl, rfl⟩ rfl (pX0_has (S := (si S 203 (nI 0))) (p)) (by decide) (Nat.le_of_ble_eq_true rfl) ?_
  refine k_ifb_eq 22 eX0_begin_10 (by decide) (fun c_10 => ?_) (fun c_10 => ?_)
  · refine k_iconst (v := nI 0) eX0_begin_22 (by decide) ?_
    refine k_ireturn eX0_begin_23 rfl rfl ?_
    exact ⟨rfl, rfl⟩
  refine k_iload_n eX0_begin_13 rfl ?_
  refine k_iconst (v := nI 0) eX0_begin_14 (by decide) ?_
  refine k_iconst (v := nI 3) eX0_begin_15 (by decide) ?_
  refine cN1 (M' := MX11_within) eX0_begin_16 mX0_41 wX11_within sX11_within rfl (pX11_within (s) (nI 0) (nI 3)) (by decide) (Nat.le_of_ble_eq_true rfl) ?_
  refine k_ifb_ne 24 eX0_begin_19 (by decide) (fun c_19 => by exact absurd ⟨c_10, c_19⟩ hb) (fun c_19 => ?_)
  refine k_iconst (v := nI 0) eX0_begin_22 (by decide) ?_
  refine k_ireturn eX0_begin_23 rfl rfl ?_
  exact ⟨rfl, rfl⟩
def ranV (S : k_S) (i : Int32) : Int32 := if 0 ≤ i ∧ i < S.1 203 ∧ i < nI 24 then S.2.1 6 (ix i) else -1
set_option maxHeartbeats 400000 in
theorem pX0_ranAt {S : k_S} (i : Int32) : Sp 1 0 0 MX0_ranAt [.ref 4, .int (i)] (hp S) (Rt (some (.int (ranV S i))) (hp S)) := by
  refine Sp_of (by decide +kernel) (Nat.le_of_ble_eq_true rfl) ?_
  show AW none MX0_ranAt 1 0 0 0 [.ref 4, .int (i)] [] (hp S) _
  refine k_iload_n eX0_ranAt_0 rfl ?_
  refine k_if_lt 29 eX0_ranAt_1 (by decide) (fun c_1 => ?_) (fun c_1 => ?_)
  · refine k_iconst (v := (-1)) eX0_ranAt_29 (by decide) ?_
    refine k_ireturn eX0_ranAt_30 rfl rfl ?_
    exact ⟨by rw [ranV, if_neg (fun q => by first | exact absurd q.1 (Int32.not_le.mpr c_1) | exact absurd q.2.1 (Int32.not_lt.mpr c_9) | exact absurd q.2.2 (Int32.not_lt.mpr c_15))], rfl⟩
  refine k_iload_n eX0_ranAt_4 rfl ?_
  refine k_aload_n eX0_ranAt_5 rfl ?_
  refine GX0_22 eX0_ranAt_6 rfl ?_
  refine k_icmp_ge 29 eX0_ranAt_9 (by decide) (fun c_9 => ?_) (fun c_9 => ?_)
  · refine k_iconst (v := (-1)) eX0_ranAt_29 (by decide) ?_
    refine k_ireturn eX0_ranAt_30 rfl rfl ?_
    exact ⟨by rw [ranV, if_neg (fun q => by first | exact absurd q.1 (Int32.not_le.mpr c_1) | exact absurd q.2.1 (Int32.not_lt.mpr c_9) | exact absurd q.2.2 (Int32.not_lt.mpr c_15))], rfl⟩
  refine k_iload_n eX0_ranAt_12 rfl ?_
  refine k_bipush (v := nI 24) eX0_ranAt_13 (by decide) ?_
  refine k_icmp_ge 29 eX0_ranAt_15 (by decide) (fun c_15 => ?_) (fun c_15 => ?_)
  · refine k_iconst (v := (-1)) eX0_ranAt_29 (by decide) ?_
    refine k_ireturn eX0_ranAt_30 rfl rfl ?_
    exact ⟨by rw [ranV, if_neg (fun q => by first | exact absurd q.1 (Int32.not_le.mpr c_1) | exact absurd q.2.1 (Int32.not_lt.mpr c_9) | exact absurd q.2.2 (Int32.not_lt.mpr c_15))], rfl⟩
  refine k_aload_n eX0_ranAt_18 rfl ?_
  refine GX0_19 eX0_ranAt_19 rfl ?_
  refine k_iload_n eX0_ranAt_22 rfl ?_
  refine cN1 (M' := MX11_read) eX0_ranAt_23 mX0_29 wX11_read sX11_read rfl (pX11_read (i := i) (ar6 _) (by decide)) (by decide) (Nat.le_of_ble_eq_true rfl) ?_
  refine k_goto 30 eX0_ranAt_26 (by decide) ?_
  refine k_ireturn eX0_ranAt_30 rfl rfl ?_
  exact ⟨by rw [ranV, if_pos ⟨Int32.not_lt.mp c_1, Int32.not_le.mp c_9, Int32.not_le.mp c_15⟩, rd, if_pos ⟨Int32.not_lt.mp c_1, Int32.not_le.mp c_15⟩], rfl⟩
