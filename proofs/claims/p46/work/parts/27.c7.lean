/-- one more change told: the four rows and how many -/
def chP (S : k_S) (n s p : Nat) (b v : Int32) : k_S := si (sa (sa (sa (sa S 34 (va_up (S.2.1 34) n (nI s))) 35 (va_up (S.2.1 35) n (nI p))) 36 (va_up (S.2.1 36) n b)) 37 (va_up (S.2.1 37) n v)) 1656 (nI (n + 1))
def shN (f : Nat → Int32) : Nat → Nat → Int32
  | 0 => f
  | n + 1 => va_up (shN f n) n (shN f n (n + 1))
theorem shN_at (f : Nat → Int32) : ∀ n j, shN f n j = if j < n then f (j + 1) else f j
  | 0, j => by rw [if_neg (by omega)]; rfl
  | n + 1, j => by
    rw [shN, va_up]
    by_cases h : j = n
    · subst h; rw [if_pos rfl, if_pos (by omega), shN_at f j (j + 1), if_neg (by omega)]
    · rw [if_neg h, shN_at f n j]
      by_cases h2 : j < n
      · rw [if_pos h2, if_pos (by omega)]
      · rw [if_neg h2, if_neg (by omega)]
def drT (S : k_S) : Nat → k_S
  | 0 => S
  | n + 1 => sa (sa (sa (sa (drT S n) 34 (va_up ((drT S n).2.1 34) n ((drT S n).2.1 34 (n + 1)))) 35 (va_up ((drT S n).2.1 35) n ((drT S n).2.1 35 (n + 1)))) 36 (va_up ((drT S n).2.1 36) n ((drT S n).2.1 36 (n + 1)))) 37 (va_up ((drT S n).2.1 37) n ((drT S n).2.1 37 (n + 1)))
def drS (S : k_S) : k_S := si (drT S 39) 1656 (nI 39)
theorem drT_1 (S : k_S) : ∀ n, (drT S n).1 = S.1
  | 0 => rfl
  | n + 1 => drT_1 S n
theorem drT_3 (S : k_S) : ∀ n, (drT S n).2.2 = S.2.2
  | 0 => rfl
  | n + 1 => drT_3 S n
theorem drT_2 (S : k_S) {k : Nat} (h : k ≠ 34 ∧ k ≠ 35 ∧ k ≠ 36 ∧ k ≠ 37) : ∀ n, (drT S n).2.1 k = S.2.1 k
  | 0 => rfl
  | n + 1 => by
    have ih := drT_2 S h n
    rw [drT]; simp only [sa, va_up, if_neg h.1, if_neg h.2.1, if_neg h.2.2.1, if_neg h.2.2.2]; exact ih
theorem drT_34 (S : k_S) : ∀ n, (drT S n).2.1 34 = shN (S.2.1 34) n
  | 0 => rfl
  | n + 1 => by rw [shN, ← drT_34 S n]; rfl
theorem drT_35 (S : k_S) : ∀ n, (drT S n).2.1 35 = shN (S.2.1 35) n
  | 0 => rfl
  | n + 1 => by rw [shN, ← drT_35 S n]; rfl
theorem drT_36 (S : k_S) : ∀ n, (drT S n).2.1 36 = shN (S.2.1 36) n
  | 0 => rfl
  | n + 1 => by rw [shN, ← drT_36 S n]; rfl
theorem drT_37 (S : k_S) : ∀ n, (drT S n).2.1 37 = shN (S.2.1 37) n
  | 0 => rfl
  | n + 1 => by rw [shN, ← drT_37 S n]; rfl
set_option maxHeartbeats 400000 in
theorem lX1_dropOldest {d : Nat} {Po : Option Value → k_H → Prop} (hdd : 1 ≤ d) {S : k_S} (kx : AW none MX1_dropOldest d 0 0 86 [.ref 33, .int (nI 40)] [] (hp (drT S 39)) Po) : ∀ (n j : Nat), j + n = 39 → AW none MX1_dropOldest d 0 0 2 [.ref 33, .int (nI (j + 1))] [] (hp (drT S j)) Po := by
  intro n
  induction n with
  | zero =>
    intro j hj
    rw [show j = 39 by omega]
    refine k_iload_n eX1_dropOldest_2 rfl ?_
    refine k_bipush (v := nI 40) eX1_dropOldest_3 (by decide) ?_
    refine k_icmp_geN 86 eX1_dropOldest_5 (by decide) (by omega) (by omega) (fun c_5 => ?_) (fun c_5 => by exfalso; omega)
    exact kx
  | succ n ih =>
    intro j hj
    obtain ⟨T, hT⟩ : ∃ T, drT S j = T := ⟨_, rfl⟩
    rw [hT]
    refine k_iload_n eX1_dropOldest_2 rfl ?_
    refine k_bipush (v := nI 40) eX1_dropOldest_3 (by decide) ?_
    refine k_icmp_geN 86 eX1_dropOldest_5 (by decide) (by omega) (by omega) (fun c_5 => by exfalso; omega) (fun c_5 => ?_)
    refine k_aload_n eX1_dropOldest_8 rfl ?_
    refine GX1_11 eX1_dropOldest_9 rfl ?_
    refine k_iload_n eX1_dropOldest_12 rfl ?_
    refine k_iconst (v := nI 1) eX1_dropOldest_13 (by decide) ?_
    refine k_isubN eX1_dropOldest_14 (by omega) ?_
    refine k_aload_n eX1_dropOldest_15 rfl ?_
    refine GX1_11 eX1_dropOldest_16 rfl ?_
    refine k_iload_n eX1_dropOldest_19 rfl ?_
    refine cN1 (M' := MX11_read) eX1_dropOldest_20 mX1_54 wX11_read sX11_read rfl (pX11_readN (j := (j + 1)) (ar34 _) (by omega) (by decide)) (by omega) (Nat.le_of_ble_eq_true rfl) ?_
    refine cN0 (M' := MX11_write) eX1_dropOldest_23 mX1_46 wX11_write sX11_write rfl (pX11_writeN (j := ((j + 1) - 1)) (v := ((T).2.1 34 (j + 1))) (ar34 _) (by omega) (by decide) (as34 _ _)) (by omega) (Nat.le_of_ble_eq_true rfl) ?_
    refine k_aload_n eX1_dropOldest_26 rfl ?_
    refine GX1_15 eX1_dropOldest_27 rfl ?_
    refine k_iload_n eX1_dropOldest_30 rfl ?_
    refine k_iconst (v := nI 1) eX1_dropOldest_31 (by decide) ?_
    refine k_isubN eX1_dropOldest_32 (by omega) ?_
    refine k_aload_n eX1_dropOldest_33 rfl ?_
    refine GX1_15 eX1_dropOldest_34 rfl ?_
    refine k_iload_n eX1_dropOldest_37 rfl ?_
    refine cN1 (M' := MX11_read) eX1_dropOldest_38 mX1_54 wX11_read sX11_read rfl (pX11_readN (j := (j + 1)) (ar35 _) (by omega) (by decide)) (by omega) (Nat.le_of_ble_eq_true rfl) ?_
    refine cN0 (M' := MX11_write) eX1_dropOldest_41 mX1_46 wX11_write sX11_write rfl (pX11_writeN (j := ((j + 1) - 1)) (v := (((sa T 34 (va_up ((T).2.1 34) ((j + 1) - 1) (((T).2.1 34 (j + 1)))))).2.1 35 (j + 1))) (ar35 _) (by omega) (by decide) (as35 _ _)) (by omega) (Nat.le_of_ble_eq_true rfl) ?_
    refine k_aload_n eX1_dropOldest_44 rfl ?_
    refine GX1_18 eX1_dropOldest_45 rfl ?_
    refine k_iload_n eX1_dropOldest_48 rfl ?_
    refine k_iconst (v := nI 1) eX1_dropOldest_49 (by decide) ?_
    refine k_isubN eX1_dropOldest_50 (by omega) ?_
    refine k_aload_n eX1_dropOldest_51 rfl ?_
    refine GX1_18 eX1_dropOldest_52 rfl ?_
    refine k_iload_n eX1_dropOldest_55 rfl ?_
    refine cN1 (M' := MX11_read) eX1_dropOldest_56 mX1_54 wX11_read sX11_read rfl (pX11_readN (j := (j + 1)) (ar36 _) (by omega) (by decide)) (by omega) (Nat.le_of_ble_eq_true rfl) ?_
    refine cN0 (M' := MX11_write) eX1_dropOldest_59 mX1_46 wX11_write sX11_write rfl (pX11_writeN (j := ((j + 1) - 1)) (v := (((sa (sa T 34 (va_up ((T).2.1 34) ((j + 1) - 1) (((T).2.1 34 (j + 1))))) 35 (va_up (((sa T 34 (va_up ((T).2.1 34) ((j + 1) - 1) (((T).2.1 34 (j + 1)))))).2.1 35) ((j + 1) - 1) ((((sa T 34 (va_up ((T).2.1 34) ((j + 1) - 1) (((T).2.1 34 (j + 1)))))).2.1 35 (j + 1)))))).2.1 36 (j + 1))) (ar36 _) (by omega) (by decide) (as36 _ _)) (by omega) (Nat.le_of_ble_eq_true rfl) ?_
    refine k_aload_n eX1_dropOldest_62 rfl ?_
    refine GX1_21 eX1_dropOldest_63 rfl ?_
    refine k_iload_n eX1_dropOldest_66 rfl ?_
    refine k_iconst (v := nI 1) eX1_dropOldest_67 (by decide) ?_
    refine k_isubN eX1_dropOldest_68 (by omega) ?_
    refine k_aload_n eX1_dropOldest_69 rfl ?_
    refine GX1_21 eX1_dropOldest_70 rfl ?_
    refine k_iload_n eX1_dropOldest_73 rfl ?_
    refine cN1 (M' := MX11_read) eX1_dropOldest_74 mX1_54 wX11_read sX11_read rfl (pX11_readN (j := (j + 1)) (ar37 _) (by omega) (by decide)) (by omega) (Nat.le_of_ble_eq_true rfl) ?_
    refine cN0 (M' := MX11_write) eX1_dropOldest_77 mX1_46 wX11_write sX11_write rfl (pX11_writeN (j := ((j + 1) - 1)) (v := (((sa (sa (sa T 34 (va_up ((T).2.1 34) ((j + 1) - 1) (((T).2.1 34 (j + 1))))) 35 (va_up (((sa T 34 (va_up ((T).2.1 34) ((j + 1) - 1) (((T).2.1 34 (j + 1)))))).2.1 35) ((j + 1) - 1) ((((sa T 34 (va_up ((T).2.1 34) ((j + 1) - 1) (((T).2.1 34 (j + 1)))))).2.1 35 (j + 1))))) 36 (va_up (((sa (sa T 34 (va_up ((T).2.1 34) ((j + 1) - 1) (((T).2.1 34 (j + 1))))) 35 (va_up (((sa T 34 (va_up ((T).2.1 34) ((j + 1) - 1) (((T).2.1 34 (j + 1)))))).2.1 35) ((j + 1) - 1) ((((sa T 34 (va_up ((T).2.1 34) ((j + 1) - 1) (((T).2.1 34 (j + 1)))))).2.1 35 (j + 1)))))).2.1 36) ((j + 1) - 1) ((((sa (sa T 34 (va_up ((T).2.1 34) ((j + 1) - 1) (((T).2.1 34 (j + 1))))) 35 (va_up (((sa T 34 (va_up ((T).2.1 34) ((j + 1) - 1) (((T).2.1 34 (j + 1)))))).2.1 35) ((j + 1) - 1) ((((sa T 34 (va_up ((T).2.1 34) ((j + 1) - 1) (((T).2.1 34 (j + 1)))))).2.1 35 (j + 1)))))).2.1 36 (j + 1)))))).2.1 37 (j + 1))) (ar37 _) (by omega) (by decide) (as37 _ _)) (by omega) (Nat.le_of_ble_eq_true rfl) ?_
    refine k_iincN (g := 1) (a := (j + 1)) (L2 := [_, _]) eX1_dropOldest_80 (Nat.le_of_ble_eq_true rfl) rfl rfl ?_
    refine k_goto 2 eX1_dropOldest_83 (by decide) ?_
    have q := ih (j + 1) (by omega)
    rw [drT, hT] at q
    exact q
set_option maxHeartbeats 400000 in
theorem pX1_dropOldest {S : k_S} : Sp 1 0 0 MX1_dropOldest [.ref 33] (hp S) (Rt (none) (hp (drS S))) := by
  refine Sp_of (by decide +kernel) (Nat.le_of_ble_eq_true rfl) ?_
  show AW none MX1_dropOldest 1 0 0 0 [.ref 33, .null] [] (hp S) _
  refine k_iconst (v := nI 1) eX1_dropOldest_0 (by decide) ?_
  refine k_istore_n (L2 := [_, _]) eX1_dropOldest_1 (Nat.le_of_ble_eq_true rfl) rfl ?_
  refine lX1_dropOldest (by decide) (S := S) ?_ 39 0 (by omega)
  refine k_aload_n eX1_dropOldest_86 rfl ?_
  refine k_bipush (v := nI 39) eX1_dropOldest_87 (by decide) ?_
  refine PX1_24 eX1_dropOldest_89 rfl ?_
  refine k_return eX1_dropOldest_92 rfl ?_
  exact ⟨rfl, rfl⟩
set_option maxHeartbeats 400000 in
theorem pX1_now0 {S : k_S} {p : Nat} (hpp : p < 120) : Sp 2 0 0 MX1_now [.ref 33, .int (nI 0), .int (nI p)] (hp S) (Rt (some (.int (S.2.1 25 p))) (hp S)) := by
  refine Sp_of (by decide +kernel) (Nat.le_of_ble_eq_true rfl) ?_
  show AW none MX1_now 2 0 0 0 [.ref 33, .int (nI 0), .int (nI p)] [] (hp S) _
  refine k_iload_n eX1_now_0 rfl ?_
  refine k_if_neN 13 eX1_now_1 (by decide) (by omega) (fun c_1 => by exfalso; omega) (fun c_1 => ?_)
  refine k_aload_n eX1_now_4 rfl ?_
  refine GX1_35 eX1_now_5 rfl ?_
  refine k_iload_n eX1_now_8 rfl ?_
  refine cV1 (M' := MX2_at) eX1_now_9 mX1_58 wX2_at vX2_at ⟨_, _, _, rfl, rfl, rfl⟩ rfl (pX2_at (S := S) (j := p) (by omega)) (by decide) (Nat.le_of_ble_eq_true rfl) ?_
  refine k_ireturn eX1_now_12 rfl rfl ?_
  exact ⟨rfl, rfl⟩
set_option maxHeartbeats 400000 in
theorem pX1_become0 {S : k_S} {p : Nat} (hpp : p < 120) (v : Int32) : Sp 2 0 0 MX1_become [.ref 33, .int (nI 0), .int (nI p), .int (v)] (hp S) (Rt (none) (hp (sa S 25 (va_up (S.2.1 25) p v)))) := by
  refine Sp_of (by decide +kernel) (Nat.le_of_ble_eq_true rfl) ?_
  show AW none MX1_become 2 0 0 0 [.ref 33, .int (nI 0), .int (nI p), .int (v)] [] (hp S) _
  refine k_iload_n eX1_become_0 rfl ?_
  refine k_if_neN 16 eX1_become_1 (by decide) (by omega) (fun c_1 => by exfalso; omega) (fun c_1 => ?_)
  refine k_aload_n eX1_become_4 rfl ?_
  refine GX1_35 eX1_become_5 rfl ?_
  refine k_iload_n eX1_become_8 rfl ?_
  refine k_iload_n eX1_become_9 rfl ?_
  refine cV0 (M' := MX2_set) eX1_become_10 mX1_72 wX2_set vX2_set ⟨_, _, _, rfl, rfl, rfl⟩ rfl (pX2_set (S := S) (j := p) (v) (by omega)) (by decide) (Nat.le_of_ble_eq_true rfl) ?_
  refine k_goto 43 eX1_become_13 (by decide) ?_
  refine k_return eX1_become_43 rfl ?_
  exact ⟨rfl, rfl⟩
set_option maxHeartbeats 400000 in
theorem pX1_now1 {S : k_S} {p : Nat} (hpp : p < 6) : Sp 1 0 0 MX1_now [.ref 33, .int (nI 1), .int (nI p)] (hp S) (Rt (some (.int (S.2.1 17 p))) (hp S)) := by
  refine Sp_of (by decide +kernel) (Nat.le_of_ble_eq_true rfl) ?_
  show AW none MX1_now 1 0 0 0 [.ref 33, .int (nI 1), .int (nI p)] [] (hp S) _
  refine k_iload_n eX1_now_0 rfl ?_
  refine k_if_neN 13 eX1_now_1 (by decide) (by omega) (fun c_1 => ?_) (fun c_1 => by exfalso; omega)
  refine k_iload_n eX1_now_13 rfl ?_
  refine k_iconst (v := nI 1) eX1_now_14 (by decide) ?_
  refine k_icmp_neN 28 eX1_now_15 (by decide) (by omega) (by omega) (fun c_15 => by exfalso; omega) (fun c_15 => ?_)
  refine k_aload_n eX1_now_18 rfl ?_
  refine GX1_31 eX1_now_19 rfl ?_
  refine GX1_64 eX1_now_22 rfl ?_
  refine k_goto 35 eX1_now_25 (by decide) ?_
  refine k_iload_n eX1_now_35 rfl ?_
  refine cN1 (M' := MX11_read) eX1_now_36 mX1_54 wX11_read sX11_read rfl (pX11_readN (j := p) (ar17 _) (by omega) (by decide)) (by decide) (Nat.le_of_ble_eq_true rfl) ?_
  refine k_ireturn eX1_now_39 rfl rfl ?_
  exact ⟨rfl, rfl⟩
set_option maxHeartbeats 400000 in
theorem pX1_become1 {S : k_S} {p : Nat} (hpp : p < 6) (v : Int32) : Sp 1 0 0 MX1_become [.ref 33, .int (nI 1), .int (nI p), .int (v)] (hp S) (Rt (none) (hp (sa S 17 (va_up (S.2.1 17) p v)))) := by
  refine Sp_of (by decide +kernel) (Nat.le_of_ble_eq_true rfl) ?_
  show AW none MX1_become 1 0 0 0 [.ref 33, .int (nI 1), .int (nI p), .int (v)] [] (hp S) _
  refine k_iload_n eX1_become_0 rfl ?_
  refine k_if_neN 16 eX1_become_1 (by decide) (by omega) (fun c_1 => ?_) (fun c_1 => by exfalso; omega)
  refine k_iload_n eX1_become_16 rfl ?_
  refine k_iconst (v := nI 1) eX1_become_17 (by decide) ?_
  refine k_icmp_neN 31 eX1_become_18 (by decide) (by omega) (by omega) (fun c_18 => by exfalso; omega) (fun c_18 => ?_)
  refine k_aload_n eX1_become_21 rfl ?_
  refine GX1_31 eX1_become_22 rfl ?_
  refine GX1_64 eX1_become_25 rfl ?_
  refine k_goto 38 eX1_become_28 (by decide) ?_
  refine k_iload_n eX1_become_38 rfl ?_
  refine k_iload_n eX1_become_39 rfl ?_
  refine cN0 (M' := MX11_write) eX1_become_40 mX1_46 wX11_write sX11_write rfl (pX11_writeN (j := p) (v := v) (ar17 _) (by omega) (by decide) (as17 _ _)) (by decide) (Nat.le_of_ble_eq_true rfl) ?_
  refine k_return eX1_become_43 rfl ?_
  exact ⟨rfl, rfl⟩
set_option maxHeartbeats 400000 in
theorem pX1_now2 {S : k_S} {p : Nat} (hpp : p < 6) : Sp 1 0 0 MX1_now [.ref 33, .int (nI 2), .int (nI p)] (hp S) (Rt (some (.int (S.2.1 18 p))) (hp S)) := by
  refine Sp_of (by decide +kernel) (Nat.le_of_ble_eq_true rfl) ?_
  show AW none MX1_now 1 0 0 0 [.ref 33, .int (nI 2), .int (nI p)] [] (hp S) _
  refine k_iload_n eX1_now_0 rfl ?_
  refine k_if_neN 13 eX1_now_1 (by decide) (by omega) (fun c_1 => ?_) (fun c_1 => by exfalso; omega)
  refine k_iload_n eX1_now_13 rfl ?_
  refine k_iconst (v := nI 1) eX1_now_14 (by decide) ?_
  refine k_icmp_neN 28 eX1_now_15 (by decide) (by omega) (by omega) (fun c_15 => ?_) (fun c_15 => by exfalso; omega)
  refine k_aload_n eX1_now_28 rfl ?_
  refine GX1_31 eX1_now_29 rfl ?_
  refine GX1_69 eX1_now_32 rfl ?_
  refine k_iload_n eX1_now_35 rfl ?_
  refine cN1 (M' := MX11_read) eX1_now_36 mX1_54 wX11_read sX11_read rfl (pX11_readN (j := p) (ar18 _) (by omega) (by decide)) (by decide) (Nat.le_of_ble_eq_true rfl) ?_
  refine k_ireturn eX1_now_39 rfl rfl ?_
  exact ⟨rfl, rfl⟩
set_option maxHeartbeats 400000 in
theorem pX1_become2 {S : k_S} {p : Nat} (hpp : p < 6) (v : Int32) : Sp 1 0 0 MX1_become [.ref 33, .int (nI 2), .int (nI p), .int (v)] (hp S) (Rt (none) (hp (sa S 18 (va_up (S.2.1 18) p v)))) := by
  refine Sp_of (by decide +kernel) (Nat.le_of_ble_eq_true rfl) ?_
  show AW none MX1_become 1 0 0 0 [.ref 33, .int (nI 2), .int (nI p), .int (v)] [] (hp S) _
  refine k_iload_n eX1_become_0 rfl ?_
  refine k_if_neN 16 eX1_become_1 (by decide) (by omega) (fun c_1 => ?_) (fun c_1 => by exfalso; omega)
  refine k_iload_n eX1_become_16 rfl ?_
  refine k_iconst (v := nI 1) eX1_become_17 (by decide) ?_
  refine k_icmp_neN 31 eX1_become_18 (by decide) (by omega) (by omega) (fun c_18 => ?_) (fun c_18 => by exfalso; omega)
  refine k_aload_n eX1_become_31 rfl ?_
  refine GX1_31 eX1_become_32 rfl ?_
  refine GX1_69 eX1_become_35 rfl ?_
  refine k_iload_n eX1_become_38 rfl ?_
  refine k_iload_n eX1_become_39 rfl ?_
  refine cN0 (M' := MX11_write) eX1_become_40 mX1_46 wX11_write sX11_write rfl (pX11_writeN (j := p) (v := v) (ar18 _) (by omega) (by decide) (as18 _ _)) (by decide) (Nat.le_of_ble_eq_true rfl) ?_
  refine k_return eX1_become_43 rfl ?_
  exact ⟨rfl, rfl⟩
set_option maxHeartbeats 400000 in
theorem pX1_tell0s {S : k_S} {p : Nat} (hpp : p < 120) (v : Int32) (he : S.2.1 25 p = v) : Sp 3 0 0 MX1_tell [.ref 33, .int (nI 0), .int (nI p), .int (v)] (hp S) (Rt (some (.int (v))) (hp S)) := by
  refine Sp_of (by decide +kernel) (Nat.le_of_ble_eq_true rfl) ?_
  show AW none MX1_tell 3 0 0 0 [.ref 33, .int (nI 0), .int (nI p), .int (v), .null] [] (hp S) _
  refine k_aload_n eX1_tell_0 rfl ?_
  refine k_iload_n eX1_tell_1 rfl ?_
  refine k_iload_n eX1_tell_2 rfl ?_
  refine cV1 (M' := MX1_now) eX1_tell_3 mX1_39 wX1_now vX1_now ⟨_, _, _, rfl, rfl, rfl⟩ rfl (pX1_now0 (S := S) (p := p) (by omega)) (by decide) (Nat.le_of_ble_eq_true rfl) ?_
  refine k_topi (v) he ?_
  refine k_istore (L2 := [_, _, _, _, _]) eX1_tell_6 (Nat.le_of_ble_eq_true rfl) rfl ?_
  refine k_iload eX1_tell_8 rfl ?_
  refine k_iload_n eX1_tell_10 rfl ?_
  refine k_icmp_ne 17 eX1_tell_11 (by decide) (fun c_11 => by exact absurd rfl c_11) (fun c_11 => ?_)
  refine k_iload eX1_tell_14 rfl ?_
  refine k_ireturn eX1_tell_16 rfl rfl ?_
  exact ⟨rfl, rfl⟩
set_option maxHeartbeats 400000 in
theorem pX1_tell0n {S : k_S} {p : Nat} (hpp : p < 120) (v : Int32) (he : S.2.1 25 p ≠ v) {n : Nat} (hn : S.1 1656 = nI n) (hn40 : n < 40) : Sp 3 0 0 MX1_tell [.ref 33, .int (nI 0), .int (nI p), .int (v)] (hp S) (Rt (some (.int (S.2.1 25 p))) (hp (sa (chP (si S 1657 (nI 0)) n 0 p (S.2.1 25 p) v) 25 (va_up (S.2.1 25) p v)))) := by
  refine Sp_of (by decide +kernel) (Nat.le_of_ble_eq_true rfl) ?_
  show AW none MX1_tell 3 0 0 0 [.ref 33, .int (nI 0), .int (nI p), .int (v), .null] [] (hp S) _
  refine k_aload_n eX1_tell_0 rfl ?_
  refine k_iload_n eX1_tell_1 rfl ?_
  refine k_iload_n eX1_tell_2 rfl ?_
  refine cV1 (M' := MX1_now) eX1_tell_3 mX1_39 wX1_now vX1_now ⟨_, _, _, rfl, rfl, rfl⟩ rfl (pX1_now0 (S := S) (p := p) (by omega)) (by decide) (Nat.le_of_ble_eq_true rfl) ?_
  refine k_istore (L2 := [_, _, _, _, _]) eX1_tell_6 (Nat.le_of_ble_eq_true rfl) rfl ?_
  refine k_iload eX1_tell_8 rfl ?_
  refine k_iload_n eX1_tell_10 rfl ?_
  refine k_icmp_ne 17 eX1_tell_11 (by decide) (fun c_11 => ?_) (fun c_11 => by exact absurd c_11 he)
  refine k_aload_n eX1_tell_17 rfl ?_
  refine k_iconst (v := nI 0) eX1_tell_18 (by decide) ?_
  refine PX1_28 eX1_tell_19 rfl ?_
  refine k_aload_n eX1_tell_22 rfl ?_
  refine GX1_24 eX1_tell_23 rfl ?_
  refine k_topi (nI n) hn ?_
  refine k_bipush (v := nI 40) eX1_tell_26 (by decide) ?_
  refine k_icmp_ltN 35 eX1_tell_28 (by decide) (by omega) (by omega) (fun c_28 => ?_) (fun c_28 => by exfalso; omega)
  refine k_aload_n eX1_tell_35 rfl ?_
  refine GX1_11 eX1_tell_36 rfl ?_
  refine k_aload_n eX1_tell_39 rfl ?_
  refine GX1_24 eX1_tell_40 rfl ?_
  refine k_topi (nI n) hn ?_
  refine k_iload_n eX1_tell_43 rfl ?_
  refine cN0 (M' := MX11_write) eX1_tell_44 mX1_46 wX11_write sX11_write rfl (pX11_writeN (j := n) (v := nI 0) (ar34 _) (by omega) (by decide) (as34 _ _)) (by decide) (Nat.le_of_ble_eq_true rfl) ?_
  refine k_aload_n eX1_tell_47 rfl ?_
  refine GX1_15 eX1_tell_48 rfl ?_
  refine k_aload_n eX1_tell_51 rfl ?_
  refine GX1_24 eX1_tell_52 rfl ?_
  refine k_topi (nI n) hn ?_
  refine k_iload_n eX1_tell_55 rfl ?_
  refine cN0 (M' := MX11_write) eX1_tell_56 mX1_46 wX11_write sX11_write rfl (pX11_writeN (j := n) (v := nI p) (ar35 _) (by omega) (by decide) (as35 _ _)) (by decide) (Nat.le_of_ble_eq_true rfl) ?_
  refine k_aload_n eX1_tell_59 rfl ?_
  refine GX1_18 eX1_tell_60 rfl ?_
  refine k_aload_n eX1_tell_63 rfl ?_
  refine GX1_24 eX1_tell_64 rfl ?_
  refine k_topi (nI n) hn ?_
  refine k_iload eX1_tell_67 rfl ?_
  refine cN0 (M' := MX11_write) eX1_tell_69 mX1_46 wX11_write sX11_write rfl (pX11_writeN (j := n) (v := ((S).2.1 25 p)) (ar36 _) (by omega) (by decide) (as36 _ _)) (by decide) (Nat.le_of_ble_eq_true rfl) ?_
  refine k_aload_n eX1_tell_72 rfl ?_
  refine GX1_21 eX1_tell_73 rfl ?_
  refine k_aload_n eX1_tell_76 rfl ?_
  refine GX1_24 eX1_tell_77 rfl ?_
  refine k_topi (nI n) hn ?_
  refine k_iload_n eX1_tell_80 rfl ?_
  refine cN0 (M' := MX11_write) eX1_tell_81 mX1_46 wX11_write sX11_write rfl (pX11_writeN (j := n) (v := v) (ar37 _) (by omega) (by decide) (as37 _ _)) (by decide) (Nat.le_of_ble_eq_true rfl) ?_
  refine k_aload_n eX1_tell_84 rfl ?_
  refine k_dup eX1_tell_85 rfl ?_
  refine GX1_24 eX1_tell_86 rfl ?_
  refine k_topi (nI n) hn ?_
  refine k_iconst (v := nI 1) eX1_tell_89 (by decide) ?_
  refine k_iaddN eX1_tell_90 ?_
  refine PX1_24 eX1_tell_91 rfl ?_
  refine k_aload_n eX1_tell_94 rfl ?_
  refine k_iload_n eX1_tell_95 rfl ?_
  refine k_iload_n eX1_tell_96 rfl ?_
  refine k_iload_n eX1_tell_97 rfl ?_
  refine cV0 (M' := MX1_become) eX1_tell_98 mX1_50 wX1_become vX1_become ⟨_, _, _, rfl, rfl, rfl⟩ rfl (pX1_become0 (S := (si (sa (sa (sa (sa (si S 1657 (nI 0)) 34 (va_up (((si S 1657 (nI 0))).2.1 34) n (nI 0))) 35 (va_up (((sa (si S 1657 (nI 0)) 34 (va_up (((si S 1657 (nI 0))).2.1 34) n (nI 0)))).2.1 35) n (nI p))) 36 (va_up (((sa (sa (si S 1657 (nI 0)) 34 (va_up (((si S 1657 (nI 0))).2.1 34) n (nI 0))) 35 (va_up (((sa (si S 1657 (nI 0)) 34 (va_up (((si S 1657 (nI 0))).2.1 34) n (nI 0)))).2.1 35) n (nI p)))).2.1 36) n (((S).2.1 25 p)))) 37 (va_up (((sa (sa (sa (si S 1657 (nI 0)) 34 (va_up (((si S 1657 (nI 0))).2.1 34) n (nI 0))) 35 (va_up (((sa (si S 1657 (nI 0)) 34 (va_up (((si S 1657 (nI 0))).2.1 34) n (nI 0)))).2.1 35) n (nI p))) 36 (va_up (((sa (sa (si S 1657 (nI 0)) 34 (va_up (((si S 1657 (nI 0))).2.1 34) n (nI 0))) 35 (va_up (((sa (si S 1657 (nI 0)) 34 (va_up (((si S 1657 (nI 0))).2.1 34) n (nI 0)))).2.1 35) n (nI p)))).2.1 36) n (((S).2.1 25 p))))).2.1 37) n (v))) 1656 (nI (n + 1)))) (p := p) (by omega) (v)) (by decide) (Nat.le_of_ble_eq_true rfl) ?_
  refine k_iload eX1_tell_101 rfl ?_
  refine k_ireturn eX1_tell_103 rfl rfl ?_
  exact ⟨rfl, rfl⟩
set_option maxHeartbeats 400000 in
theorem pX1_tell0f {S : k_S} {p : Nat} (hpp : p < 120) (v : Int32) (he : S.2.1 25 p ≠ v) (hn : S.1 1656 = nI 40) : Sp 3 0 0 MX1_tell [.ref 33, .int (nI 0), .int (nI p), .int (v)] (hp S) (Rt (some (.int (S.2.1 25 p))) (hp (sa (chP (drS (si S 1657 (nI 0))) 39 0 p (S.2.1 25 p) v) 25 (va_up (S.2.1 25) p v)))) := by
  refine Sp_of (by decide +kernel) (Nat.le_of_ble_eq_true rfl) ?_
  show AW none MX1_tell 3 0 0 0 [.ref 33, .int (nI 0), .int (nI p), .int (v), .null] [] (hp S) _
  refine k_aload_n eX1_tell_0 rfl ?_
  refine k_iload_n eX1_tell_1 rfl ?_
  refine k_iload_n eX1_tell_2 rfl ?_
  refine cV1 (M' := MX1_now) eX1_tell_3 mX1_39 wX1_now vX1_now ⟨_, _, _, rfl, rfl, rfl⟩ rfl (pX1_now0 (S := S) (p := p) (by omega)) (by decide) (Nat.le_of_ble_eq_true rfl) ?_
  refine k_istore (L2 := [_, _, _, _, _]) eX1_tell_6 (Nat.le_of_ble_eq_true rfl) rfl ?_
  refine k_iload eX1_tell_8 rfl ?_
  refine k_iload_n eX1_tell_10 rfl ?_
  refine k_icmp_ne 17 eX1_tell_11 (by decide) (fun c_11 => ?_) (fun c_11 => by exact absurd c_11 he)
  refine k_aload_n eX1_tell_17 rfl ?_
  refine k_iconst (v := nI 0) eX1_tell_18 (by decide) ?_
  refine PX1_28 eX1_tell_19 rfl ?_
  refine k_aload_n eX1_tell_22 rfl ?_
  refine GX1_24 eX1_tell_23 rfl ?_
  refine k_topi (nI 40) hn ?_
  refine k_bipush (v := nI 40) eX1_tell_26 (by decide) ?_
  refine k_icmp_ltN 35 eX1_tell_28 (by decide) (by omega) (by omega) (fun c_28 => by exfalso; omega) (fun c_28 => ?_)
  refine k_aload_n eX1_tell_31 rfl ?_
  refine cV0 (M' := MX1_dropOldest) eX1_tell_32 mX1_43 wX1_dropOldest vX1_dropOldest ⟨_, _, _, rfl, rfl, rfl⟩ rfl (pX1_dropOldest (S := (si S 1657 (nI 0))) ) (by decide) (Nat.le_of_ble_eq_true rfl) ?_
  obtain ⟨T, hT⟩ : ∃ T, drS (si S 1657 (nI 0)) = T := ⟨_, rfl⟩
  have hTn : T.1 1656 = nI 39 := by rw [← hT]; rfl
  have hTa : T.2.1 25 = S.2.1 25 := by rw [← hT]; exact drT_2 (si S 1657 (nI 0)) (by decide) 39
  rw [hT]
  refine k_aload_n eX1_tell_35 rfl ?_
  refine GX1_11 eX1_tell_36 rfl ?_
  refine k_aload_n eX1_tell_39 rfl ?_
  refine GX1_24 eX1_tell_40 rfl ?_
  refine k_topi (nI 39) hTn ?_
  refine k_iload_n eX1_tell_43 rfl ?_
  refine cN0 (M' := MX11_write) eX1_tell_44 mX1_46 wX11_write sX11_write rfl (pX11_writeN (j := 39) (v := nI 0) (ar34 _) (by omega) (by decide) (as34 _ _)) (by decide) (Nat.le_of_ble_eq_true rfl) ?_
  refine k_aload_n eX1_tell_47 rfl ?_
  refine GX1_15 eX1_tell_48 rfl ?_
  refine k_aload_n eX1_tell_51 rfl ?_
  refine GX1_24 eX1_tell_52 rfl ?_
  refine k_topi (nI 39) hTn ?_
  refine k_iload_n eX1_tell_55 rfl ?_
  refine cN0 (M' := MX11_write) eX1_tell_56 mX1_46 wX11_write sX11_write rfl (pX11_writeN (j := 39) (v := nI p) (ar35 _) (by omega) (by decide) (as35 _ _)) (by decide) (Nat.le_of_ble_eq_true rfl) ?_
  refine k_aload_n eX1_tell_59 rfl ?_
  refine GX1_18 eX1_tell_60 rfl ?_
  refine k_aload_n eX1_tell_63 rfl ?_
  refine GX1_24 eX1_tell_64 rfl ?_
  refine k_topi (nI 39) hTn ?_
  refine k_iload eX1_tell_67 rfl ?_
  refine cN0 (M' := MX11_write) eX1_tell_69 mX1_46 wX11_write sX11_write rfl (pX11_writeN (j := 39) (v := ((S).2.1 25 p)) (ar36 _) (by omega) (by decide) (as36 _ _)) (by decide) (Nat.le_of_ble_eq_true rfl) ?_
  refine k_aload_n eX1_tell_72 rfl ?_
  refine GX1_21 eX1_tell_73 rfl ?_
  refine k_aload_n eX1_tell_76 rfl ?_
  refine GX1_24 eX1_tell_77 rfl ?_
  refine k_topi (nI 39) hTn ?_
  refine k_iload_n eX1_tell_80 rfl ?_
  refine cN0 (M' := MX11_write) eX1_tell_81 mX1_46 wX11_write sX11_write rfl (pX11_writeN (j := 39) (v := v) (ar37 _) (by omega) (by decide) (as37 _ _)) (by decide) (Nat.le_of_ble_eq_true rfl) ?_
  refine k_aload_n eX1_tell_84 rfl ?_
  refine k_dup eX1_tell_85 rfl ?_
  refine GX1_24 eX1_tell_86 rfl ?_
  refine k_topi (nI 39) hTn ?_
  refine k_iconst (v := nI 1) eX1_tell_89 (by decide) ?_
  refine k_iaddN eX1_tell_90 ?_
  refine PX1_24 eX1_tell_91 rfl ?_
  refine k_aload_n eX1_tell_94 rfl ?_
  refine k_iload_n eX1_tell_95 rfl ?_
  refine k_iload_n eX1_tell_96 rfl ?_
  refine k_iload_n eX1_tell_97 rfl ?_
  refine cV0 (M' := MX1_become) eX1_tell_98 mX1_50 wX1_become vX1_become ⟨_, _, _, rfl, rfl, rfl⟩ rfl (pX1_become0 (S := (si (sa (sa (sa (sa T 34 (va_up ((T).2.1 34) 39 (nI 0))) 35 (va_up (((sa T 34 (va_up ((T).2.1 34) 39 (nI 0)))).2.1 35) 39 (nI p))) 36 (va_up (((sa (sa T 34 (va_up ((T).2.1 34) 39 (nI 0))) 35 (va_up (((sa T 34 (va_up ((T).2.1 34) 39 (nI 0)))).2.1 35) 39 (nI p)))).2.1 36) 39 (((S).2.1 25 p)))) 37 (va_up (((sa (sa (sa T 34 (va_up ((T).2.1 34) 39 (nI 0))) 35 (va_up (((sa T 34 (va_up ((T).2.1 34) 39 (nI 0)))).2.1 35) 39 (nI p))) 36 (va_up (((sa (sa T 34 (va_up ((T).2.1 34) 39 (nI 0))) 35 (va_up (((sa T 34 (va_up ((T).2.1 34) 39 (nI 0)))).2.1 35) 39 (nI p)))).2.1 36) 39 (((S).2.1 25 p))))).2.1 37) 39 (v))) 1656 (nI 40))) (p := p) (by omega) (v)) (by decide) (Nat.le_of_ble_eq_true rfl) ?_
  refine k_iload eX1_tell_101 rfl ?_
  refine k_ireturn eX1_tell_103 rfl rfl ?_
  exact ⟨rfl, by rw [← hTa]; rfl⟩
set_option maxHeartbeats 400000 in
theorem pX1_stepBack0 {S : k_S} {n p u : Nat} (hn : S.1 1656 = nI (n + 1)) (hn40 : n < 40) (hu : S.1 1657 = nI u) (hu2 : u ≤ 40) (hs : S.2.1 34 n = nI 0) (hq : S.2.1 35 n = nI p) (hpp : p < 120) : Sp 3 0 0 MX1_stepBack [.ref 33] (hp S) (Rt (some (.int (nI n))) (hp (sa (si (si S 1656 (nI n)) 1657 (nI (u + 1))) 25 (va_up (S.2.1 25) p (S.2.1 36 n))))) := by
  refine Sp_of (by decide +kernel) (Nat.le_of_ble_eq_true rfl) ?_
  show AW none MX1_stepBack 3 0 0 0 [.ref 33] [] (hp S) _
  refine k_aload_n eX1_stepBack_0 rfl ?_
  refine GX1_24 eX1_stepBack_1 rfl ?_
  refine k_topi (nI (n + 1)) hn ?_
  refine k_if_gtN 10 eX1_stepBack_4 (by decide) (by omega) (fun c_4 => ?_) (fun c_4 => by exfalso; omega)
  refine k_aload_n eX1_stepBack_10 rfl ?_
  refine k_dup eX1_stepBack_11 rfl ?_
  refine GX1_24 eX1_stepBack_12 rfl ?_
  refine k_topi (nI (n + 1)) hn ?_
  refine k_iconst (v := nI 1) eX1_stepBack_15 (by decide) ?_
  refine k_isubN eX1_stepBack_16 (by omega) ?_
  refine PX1_24 eX1_stepBack_17 rfl ?_
  refine k_aload_n eX1_stepBack_20 rfl ?_
  refine k_dup eX1_stepBack_21 rfl ?_
  refine GX1_28 eX1_stepBack_22 rfl ?_
  refine k_topi (nI u) hu ?_
  refine k_iconst (v := nI 1) eX1_stepBack_25 (by decide) ?_
  refine k_iaddN eX1_stepBack_26 ?_
  refine PX1_28 eX1_stepBack_27 rfl ?_
  refine k_aload_n eX1_stepBack_30 rfl ?_
  refine k_aload_n eX1_stepBack_31 rfl ?_
  refine GX1_11 eX1_stepBack_32 rfl ?_
  refine k_aload_n eX1_stepBack_35 rfl ?_
  refine GX1_24 eX1_stepBack_36 rfl ?_
  refine k_topi (nI n) rfl ?_
  refine cN1 (M' := MX11_read) eX1_stepBack_39 mX1_54 wX11_read sX11_read rfl (pX11_readN (j := n) (ar34 _) (by omega) (by decide)) (by decide) (Nat.le_of_ble_eq_true rfl) ?_
  refine k_topi (nI 0) hs ?_
  refine k_aload_n eX1_stepBack_42 rfl ?_
  refine GX1_15 eX1_stepBack_43 rfl ?_
  refine k_aload_n eX1_stepBack_46 rfl ?_
  refine GX1_24 eX1_stepBack_47 rfl ?_
  refine k_topi (nI n) rfl ?_
  refine cN1 (M' := MX11_read) eX1_stepBack_50 mX1_54 wX11_read sX11_read rfl (pX11_readN (j := n) (ar35 _) (by omega) (by decide)) (by decide) (Nat.le_of_ble_eq_true rfl) ?_
  refine k_topi (nI p) hq ?_
  refine k_aload_n eX1_stepBack_53 rfl ?_
  refine GX1_18 eX1_stepBack_54 rfl ?_
  refine k_aload_n eX1_stepBack_57 rfl ?_
  refine GX1_24 eX1_stepBack_58 rfl ?_
  refine k_topi (nI n) rfl ?_
  refine cN1 (M' := MX11_read) eX1_stepBack_61 mX1_54 wX11_read sX11_read rfl (pX11_readN (j := n) (ar36 _) (by omega) (by decide)) (by decide) (Nat.le_of_ble_eq_true rfl) ?_
  refine cV0 (M' := MX1_become) eX1_stepBack_64 mX1_50 wX1_become vX1_become ⟨_, _, _, rfl, rfl, rfl⟩ rfl (pX1_become0 (S := (si (si S 1656 (nI ((n + 1) - 1))) 1657 (nI (u + 1)))) (p := p) (by omega) ((((si (si S 1656 (nI ((n + 1) - 1))) 1657 (nI (u + 1)))).2.1 36 n))) (by decide) (Nat.le_of_ble_eq_true rfl) ?_
  refine k_aload_n eX1_stepBack_67 rfl ?_
  refine GX1_24 eX1_stepBack_68 rfl ?_
  refine k_topi (nI n) rfl ?_
  refine k_ireturn eX1_stepBack_71 rfl rfl ?_
  exact ⟨rfl, rfl⟩
set_option maxHeartbeats 400000 in
theorem pX1_stepAhead0 {S : k_S} {n p u : Nat} (hn : S.1 1656 = nI n) (hn40 : n < 40) (hu : S.1 1657 = nI (u + 1)) (hu2 : u ≤ 40) (hs : S.2.1 34 n = nI 0) (hq : S.2.1 35 n = nI p) (hpp : p < 120) : Sp 3 0 0 MX1_stepAhead [.ref 33] (hp S) (Rt (some (.int (nI u))) (hp (si (si (sa S 25 (va_up (S.2.1 25) p (S.2.1 37 n))) 1656 (nI (n + 1))) 1657 (nI u)))) := by
  refine Sp_of (by decide +kernel) (Nat.le_of_ble_eq_true rfl) ?_
  show AW none MX1_stepAhead 3 0 0 0 [.ref 33] [] (hp S) _
  refine k_aload_n eX1_stepAhead_0 rfl ?_
  refine GX1_28 eX1_stepAhead_1 rfl ?_
  refine k_topi (nI (u + 1)) hu ?_
  refine k_if_gtN 10 eX1_stepAhead_4 (by decide) (by omega) (fun c_4 => ?_) (fun c_4 => by exfalso; omega)
  refine k_aload_n eX1_stepAhead_10 rfl ?_
  refine k_aload_n eX1_stepAhead_11 rfl ?_
  refine GX1_11 eX1_stepAhead_12 rfl ?_
  refine k_aload_n eX1_stepAhead_15 rfl ?_
  refine GX1_24 eX1_stepAhead_16 rfl ?_
  refine k_topi (nI n) hn ?_
  refine cN1 (M' := MX11_read) eX1_stepAhead_19 mX1_54 wX11_read sX11_read rfl (pX11_readN (j := n) (ar34 _) (by omega) (by decide)) (by decide) (Nat.le_of_ble_eq_true rfl) ?_
  refine k_topi (nI 0) hs ?_
  refine k_aload_n eX1_stepAhead_22 rfl ?_
  refine GX1_15 eX1_stepAhead_23 rfl ?_
  refine k_aload_n eX1_stepAhead_26 rfl ?_
  refine GX1_24 eX1_stepAhead_27 rfl ?_
  refine k_topi (nI n) hn ?_
  refine cN1 (M' := MX11_read) eX1_stepAhead_30 mX1_54 wX11_read sX11_read rfl (pX11_readN (j := n) (ar35 _) (by omega) (by decide)) (by decide) (Nat.le_of_ble_eq_true rfl) ?_
  refine k_topi (nI p) hq ?_
  refine k_aload_n eX1_stepAhead_33 rfl ?_
  refine GX1_21 eX1_stepAhead_34 rfl ?_
  refine k_aload_n eX1_stepAhead_37 rfl ?_
  refine GX1_24 eX1_stepAhead_38 rfl ?_
  refine k_topi (nI n) hn ?_
  refine cN1 (M' := MX11_read) eX1_stepAhead_41 mX1_54 wX11_read sX11_read rfl (pX11_readN (j := n) (ar37 _) (by omega) (by decide)) (by decide) (Nat.le_of_ble_eq_true rfl) ?_
  refine cV0 (M' := MX1_become) eX1_stepAhead_44 mX1_50 wX1_become vX1_become ⟨_, _, _, rfl, rfl, rfl⟩ rfl (pX1_become0 (S := S) (p := p) (by omega) (((S).2.1 37 n))) (by decide) (Nat.le_of_ble_eq_true rfl) ?_
  refine k_aload_n eX1_stepAhead_47 rfl ?_
  refine k_dup eX1_stepAhead_48 rfl ?_
  refine GX1_24 eX1_stepAhead_49 rfl ?_
  refine k_topi (nI n) hn ?_
  refine k_iconst (v := nI 1) eX1_stepAhead_52 (by decide) ?_
  refine k_iaddN eX1_stepAhead_53 ?_
  refine PX1_24 eX1_stepAhead_54 rfl ?_
  refine k_aload_n eX1_stepAhead_57 rfl ?_
  refine k_dup eX1_stepAhead_58 rfl ?_
  refine GX1_28 eX1_stepAhead_59 rfl ?_
  refine k_topi (nI (u + 1)) hu ?_
  refine k_iconst (v := nI 1) eX1_stepAhead_62 (by decide) ?_
  refine k_isubN eX1_stepAhead_63 (by omega) ?_
  refine PX1_28 eX1_stepAhead_64 rfl ?_
  refine k_aload_n eX1_stepAhead_67 rfl ?_
  refine GX1_28 eX1_stepAhead_68 rfl ?_
  refine k_topi (nI u) rfl ?_
  refine k_ireturn eX1_stepAhead_71 rfl rfl ?_
  exact ⟨rfl, rfl⟩
set_option maxHeartbeats 400000 in
theorem pX1_tell1s {S : k_S} {p : Nat} (hpp : p < 6) (v : Int32) (he : S.2.1 17 p = v) : Sp 2 0 0 MX1_tell [.ref 33, .int (nI 1), .int (nI p), .int (v)] (hp S) (Rt (some (.int (v))) (hp S)) := by
  refine Sp_of (by decide +kernel) (Nat.le_of_ble_eq_true rfl) ?_
  show AW none MX1_tell 2 0 0 0 [.ref 33, .int (nI 1), .int (nI p), .int (v), .null] [] (hp S) _
  refine k_aload_n eX1_tell_0 rfl ?_
  refine k_iload_n eX1_tell_1 rfl ?_
  refine k_iload_n eX1_tell_2 rfl ?_
  refine cV1 (M' := MX1_now) eX1_tell_3 mX1_39 wX1_now vX1_now ⟨_, _, _, rfl, rfl, rfl⟩ rfl (pX1_now1 (S := S) (p := p) (by omega)) (by decide) (Nat.le_of_ble_eq_true rfl) ?_
  refine k_topi (v) he ?_
  refine k_istore (L2 := [_, _, _, _, _]) eX1_tell_6 (Nat.le_of_ble_eq_true rfl) rfl ?_
  refine k_iload eX1_tell_8 rfl ?_
  refine k_iload_n eX1_tell_10 rfl ?_
  refine k_icmp_ne 17 eX1_tell_11 (by decide) (fun c_11 => by exact absurd rfl c_11) (fun c_11 => ?_)
  refine k_iload eX1_tell_14 rfl ?_
  refine k_ireturn eX1_tell_16 rfl rfl ?_
  exact ⟨rfl, rfl⟩
set_option maxHeartbeats 400000 in
theorem pX1_tell1n {S : k_S} {p : Nat} (hpp : p < 6) (v : Int32) (he : S.2.1 17 p ≠ v) {n : Nat} (hn : S.1 1656 = nI n) (hn40 : n < 40) : Sp 2 0 0 MX1_tell [.ref 33, .int (nI 1), .int (nI p), .int (v)] (hp S) (Rt (some (.int (S.2.1 17 p))) (hp (sa (chP (si S 1657 (nI 0)) n 1 p (S.2.1 17 p) v) 17 (va_up (S.2.1 17) p v)))) := by
  refine Sp_of (by decide +kernel) (Nat.le_of_ble_eq_true rfl) ?_
  show AW none MX1_tell 2 0 0 0 [.ref 33, .int (nI 1), .int (nI p), .int (v), .null] [] (hp S) _
  refine k_aload_n eX1_tell_0 rfl ?_
  refine k_iload_n eX1_tell_1 rfl ?_
  refine k_iload_n eX1_tell_2 rfl ?_
  refine cV1 (M' := MX1_now) eX1_tell_3 mX1_39 wX1_now vX1_now ⟨_, _, _, rfl, rfl, rfl⟩ rfl (pX1_now1 (S := S) (p := p) (by omega)) (by decide) (Nat.le_of_ble_eq_true rfl) ?_
  refine k_istore (L2 := [_, _, _, _, _]) eX1_tell_6 (Nat.le_of_ble_eq_true rfl) rfl ?_
  refine k_iload eX1_tell_8 rfl ?_
  refine k_iload_n eX1_tell_10 rfl ?_
  refine k_icmp_ne 17 eX1_tell_11 (by decide) (fun c_11 => ?_) (fun c_11 => by exact absurd c_11 he)
  refine k_aload_n eX1_tell_17 rfl ?_
  refine k_iconst (v := nI 0) eX1_tell_18 (by decide) ?_
  refine PX1_28 eX1_tell_19 rfl ?_
  refine k_aload_n eX1_tell_22 rfl ?_
  refine GX1_24 eX1_tell_23 rfl ?_
  refine k_topi (nI n) hn ?_
  refine k_bipush (v := nI 40) eX1_tell_26 (by decide) ?_
  refine k_icmp_ltN 35 eX1_tell_28 (by decide) (by omega) (by omega) (fun c_28 => ?_) (fun c_28 => by exfalso; omega)
  refine k_aload_n eX1_tell_35 rfl ?_
  refine GX1_11 eX1_tell_36 rfl ?_
  refine k_aload_n eX1_tell_39 rfl ?_
  refine GX1_24 eX1_tell_40 rfl ?_
  refine k_topi (nI n) hn ?_
  refine k_iload_n eX1_tell_43 rfl ?_
  refine cN0 (M' := MX11_write) eX1_tell_44 mX1_46 wX11_write sX11_write rfl (pX11_writeN (j := n) (v := nI 1) (ar34 _) (by omega) (by decide) (as34 _ _)) (by decide) (Nat.le_of_ble_eq_true rfl) ?_
  refine k_aload_n eX1_tell_47 rfl ?_
  refine GX1_15 eX1_tell_48 rfl ?_
  refine k_aload_n eX1_tell_51 rfl ?_
  refine GX1_24 eX1_tell_52 rfl ?_
  refine k_topi (nI n) hn ?_
  refine k_iload_n eX1_tell_55 rfl ?_
  refine cN0 (M' := MX11_write) eX1_tell_56 mX1_46 wX11_write sX11_write rfl (pX11_writeN (j := n) (v := nI p) (ar35 _) (by omega) (by decide) (as35 _ _)) (by decide) (Nat.le_of_ble_eq_true rfl) ?_
  refine k_aload_n eX1_tell_59 rfl ?_
  refine GX1_18 eX1_tell_60 rfl ?_
  refine k_aload_n eX1_tell_63 rfl ?_
  refine GX1_24 eX1_tell_64 rfl ?_
  refine k_topi (nI n) hn ?_
  refine k_iload eX1_tell_67 rfl ?_
  refine cN0 (M' := MX11_write) eX1_tell_69 mX1_46 wX11_write sX11_write rfl (pX11_writeN (j := n) (v := ((S).2.1 17 p)) (ar36 _) (by omega) (by decide) (as36 _ _)) (by decide) (Nat.le_of_ble_eq_true rfl) ?_
  refine k_aload_n eX1_tell_72 rfl ?_
  refine GX1_21 eX1_tell_73 rfl ?_
  refine k_aload_n eX1_tell_76 rfl ?_
  refine GX1_24 eX1_tell_77 rfl ?_
  refine k_topi (nI n) hn ?_
  refine k_iload_n eX1_tell_80 rfl ?_
  refine cN0 (M' := MX11_write) eX1_tell_81 mX1_46 wX11_write sX11_write rfl (pX11_writeN (j := n) (v := v) (ar37 _) (by omega) (by decide) (as37 _ _)) (by decide) (Nat.le_of_ble_eq_true rfl) ?_
  refine k_aload_n eX1_tell_84 rfl ?_
  refine k_dup eX1_tell_85 rfl ?_
  refine GX1_24 eX1_tell_86 rfl ?_
  refine k_topi (nI n) hn ?_
  refine k_iconst (v := nI 1) eX1_tell_89 (by decide) ?_
  refine k_iaddN eX1_tell_90 ?_
  refine PX1_24 eX1_tell_91 rfl ?_
  refine k_aload_n eX1_tell_94 rfl ?_
  refine k_iload_n eX1_tell_95 rfl ?_
  refine k_iload_n eX1_tell_96 rfl ?_
  refine k_iload_n eX1_tell_97 rfl ?_
  refine cV0 (M' := MX1_become) eX1_tell_98 mX1_50 wX1_become vX1_become ⟨_, _, _, rfl, rfl, rfl⟩ rfl (pX1_become1 (S := (si (sa (sa (sa (sa (si S 1657 (nI 0)) 34 (va_up (((si S 1657 (nI 0))).2.1 34) n (nI 1))) 35 (va_up (((sa (si S 1657 (nI 0)) 34 (va_up (((si S 1657 (nI 0))).2.1 34) n (nI 1)))).2.1 35) n (nI p))) 36 (va_up (((sa (sa (si S 1657 (nI 0)) 34 (va_up (((si S 1657 (nI 0))).2.1 34) n (nI 1))) 35 (va_up (((sa (si S 1657 (nI 0)) 34 (va_up (((si S 1657 (nI 0))).2.1 34) n (nI 1)))).2.1 35) n (nI p)))).2.1 36) n (((S).2.1 17 p)))) 37 (va_up (((sa (sa (sa (si S 1657 (nI 0)) 34 (va_up (((si S 1657 (nI 0))).2.1 34) n (nI 1))) 35 (va_up (((sa (si S 1657 (nI 0)) 34 (va_up (((si S 1657 (nI 0))).2.1 34) n (nI 1)))).2.1 35) n (nI p))) 36 (va_up (((sa (sa (si S 1657 (nI 0)) 34 (va_up (((si S 1657 (nI 0))).2.1 34) n (nI 1))) 35 (va_up (((sa (si S 1657 (nI 0)) 34 (va_up (((si S 1657 (nI 0))).2.1 34) n (nI 1)))).2.1 35) n (nI p)))).2.1 36) n (((S).2.1 17 p))))).2.1 37) n (v))) 1656 (nI (n + 1)))) (p := p) (by omega) (v)) (by decide) (Nat.le_of_ble_eq_true rfl) ?_
  refine k_iload eX1_tell_101 rfl ?_
  refine k_ireturn eX1_tell_103 rfl rfl ?_
  exact ⟨rfl, rfl⟩
set_option maxHeartbeats 400000 in
theorem pX1_tell1f {S : k_S} {p : Nat} (hpp : p < 6) (v : Int32) (he : S.2.1 17 p ≠ v) (hn : S.1 1656 = nI 40) : Sp 2 0 0 MX1_tell [.ref 33, .int (nI 1), .int (nI p), .int (v)] (hp S) (Rt (some (.int (S.2.1 17 p))) (hp (sa (chP (drS (si S 1657 (nI 0))) 39 1 p (S.2.1 17 p) v) 17 (va_up (S.2.1 17) p v)))) := by
  refine Sp_of (by decide +kernel) (Nat.le_of_ble_eq_true rfl) ?_
  show AW none MX1_tell 2 0 0 0 [.ref 33, .int (nI 1), .int (nI p), .int (v), .null] [] (hp S) _
  refine k_aload_n eX1_tell_0 rfl ?_
  refine k_iload_n eX1_tell_1 rfl ?_
  refine k_iload_n eX1_tell_2 rfl ?_
  refine cV1 (M' := MX1_now) eX1_tell_3 mX1_39 wX1_now vX1_now ⟨_, _, _, rfl, rfl, rfl⟩ rfl (pX1_now1 (S := S) (p := p) (by omega)) (by decide) (Nat.le_of_ble_eq_true rfl) ?_
  refine k_istore (L2 := [_, _, _, _, _]) eX1_tell_6 (Nat.le_of_ble_eq_true rfl) rfl ?_
  refine k_iload eX1_tell_8 rfl ?_
  refine k_iload_n eX1_tell_10 rfl ?_
  refine k_icmp_ne 17 eX1_tell_11 (by decide) (fun c_11 => ?_) (fun c_11 => by exact absurd c_11 he)
  refine k_aload_n eX1_tell_17 rfl ?_
  refine k_iconst (v := nI 0) eX1_tell_18 (by decide) ?_
  refine PX1_28 eX1_tell_19 rfl ?_
  refine k_aload_n eX1_tell_22 rfl ?_
  refine GX1_24 eX1_tell_23 rfl ?_
  refine k_topi (nI 40) hn ?_
  refine k_bipush (v := nI 40) eX1_tell_26 (by decide) ?_
  refine k_icmp_ltN 35 eX1_tell_28 (by decide) (by omega) (by omega) (fun c_28 => by exfalso; omega) (fun c_28 => ?_)
  refine k_aload_n eX1_tell_31 rfl ?_
  refine cV0 (M' := MX1_dropOldest) eX1_tell_32 mX1_43 wX1_dropOldest vX1_dropOldest ⟨_, _, _, rfl, rfl, rfl⟩ rfl (pX1_dropOldest (S := (si S 1657 (nI 0))) ) (by decide) (Nat.le_of_ble_eq_true rfl) ?_
  obtain ⟨T, hT⟩ : ∃ T, drS (si S 1657 (nI 0)) = T := ⟨_, rfl⟩
  have hTn : T.1 1656 = nI 39 := by rw [← hT]; rfl
  have hTa : T.2.1 17 = S.2.1 17 := by rw [← hT]; exact drT_2 (si S 1657 (nI 0)) (by decide) 39
  rw [hT]
  refine k_aload_n eX1_tell_35 rfl ?_
  refine GX1_11 eX1_tell_36 rfl ?_
  refine k_aload_n eX1_tell_39 rfl ?_
  refine GX1_24 eX1_tell_40 rfl ?_
  refine k_topi (nI 39) hTn ?_
  refine k_iload_n eX1_tell_43 rfl ?_
  refine cN0 (M' := MX11_write) eX1_tell_44 mX1_46 wX11_write sX11_write rfl (pX11_writeN (j := 39) (v := nI 1) (ar34 _) (by omega) (by decide) (as34 _ _)) (by decide) (Nat.le_of_ble_eq_true rfl) ?_
  refine k_aload_n eX1_tell_47 rfl ?_
  refine GX1_15 eX1_tell_48 rfl ?_
  refine k_aload_n eX1_tell_51 rfl ?_
  refine GX1_24 eX1_tell_52 rfl ?_
  refine k_topi (nI 39) hTn ?_
  refine k_iload_n eX1_tell_55 rfl ?_
  refine cN0 (M' := MX11_write) eX1_tell_56 mX1_46 wX11_write sX11_write rfl (pX11_writeN (j := 39) (v := nI p) (ar35 _) (by omega) (by decide) (as35 _ _)) (by decide) (Nat.le_of_ble_eq_true rfl) ?_
  refine k_aload_n eX1_tell_59 rfl ?_
  refine GX1_18 eX1_tell_60 rfl ?_
  refine k_aload_n eX1_tell_63 rfl ?_
  refine GX1_24 eX1_tell_64 rfl ?_
  refine k_topi (nI 39) hTn ?_
  refine k_iload eX1_tell_67 rfl ?_
  refine cN0 (M' := MX11_write) eX1_tell_69 mX1_46 wX11_write sX11_write rfl (pX11_writeN (j := 39) (v := ((S).2.1 17 p)) (ar36 _) (by omega) (by decide) (as36 _ _)) (by decide) (Nat.le_of_ble_eq_true rfl) ?_
  refine k_aload_n eX1_tell_72 rfl ?_
  refine GX1_21 eX1_tell_73 rfl ?_
  refine k_aload_n eX1_tell_76 rfl ?_
  refine GX1_24 eX1_tell_77 rfl ?_
  refine k_topi (nI 39) hTn ?_
  refine k_iload_n eX1_tell_80 rfl ?_
  refine cN0 (M' := MX11_write) eX1_tell_81 mX1_46 wX11_write sX11_write rfl (pX11_writeN (j := 39) (v := v) (ar37 _) (by omega) (by decide) (as37 _ _)) (by decide) (Nat.le_of_ble_eq_true rfl) ?_
  refine k_aload_n eX1_tell_84 rfl ?_
  refine k_dup eX1_tell_85 rfl ?_
  refine GX1_24 eX1_tell_86 rfl ?_
  refine k_topi (nI 39) hTn ?_
  refine k_iconst (v := nI 1) eX1_tell_89 (by decide) ?_
  refine k_iaddN eX1_tell_90 ?_
  refine PX1_24 eX1_tell_91 rfl ?_
  refine k_aload_n eX1_tell_94 rfl ?_
  refine k_iload_n eX1_tell_95 rfl ?_
  refine k_iload_n eX1_tell_96 rfl ?_
  refine k_iload_n eX1_tell_97 rfl ?_
  refine cV0 (M' := MX1_become) eX1_tell_98 mX1_50 wX1_become vX1_become ⟨_, _, _, rfl, rfl, rfl⟩ rfl (pX1_become1 (S := (si (sa (sa (sa (sa T 34 (va_up ((T).2.1 34) 39 (nI 1))) 35 (va_up (((sa T 34 (va_up ((T).2.1 34) 39 (nI 1)))).2.1 35) 39 (nI p))) 36 (va_up (((sa (sa T 34 (va_up ((T).2.1 34) 39 (nI 1))) 35 (va_up (((sa T 34 (va_up ((T).2.1 34) 39 (nI 1)))).2.1 35) 39 (nI p)))).2.1 36) 39 (((S).2.1 17 p)))) 37 (va_up (((sa (sa (sa T 34 (va_up ((T).2.1 34) 39 (nI 1))) 35 (va_up (((sa T 34 (va_up ((T).2.1 34) 39 (nI 1)))).2.1 35) 39 (nI p))) 36 (va_up (((sa (sa T 34 (va_up ((T).2.1 34) 39 (nI 1))) 35 (va_up (((sa T 34 (va_up ((T).2.1 34) 39 (nI 1)))).2.1 35) 39 (nI p)))).2.1 36) 39 (((S).2.1 17 p))))).2.1 37) 39 (v))) 1656 (nI 40))) (p := p) (by omega) (v)) (by decide) (Nat.le_of_ble_eq_true rfl) ?_
  refine k_iload eX1_tell_101 rfl ?_
  refine k_ireturn eX1_tell_103 rfl rfl ?_
  exact ⟨rfl, by rw [← hTa]; rfl⟩
set_option maxHeartbeats 400000 in
theorem pX1_stepBack1 {S : k_S} {n p u : Nat} (hn : S.1 1656 = nI (n + 1)) (hn40 : n < 40) (hu : S.1 1657 = nI u) (hu2 : u ≤ 40) (hs : S.2.1 34 n = nI 1) (hq : S.2.1 35 n = nI p) (hpp : p < 6) : Sp 2 0 0 MX1_stepBack [.ref 33] (hp S) (Rt (some (.int (nI n))) (hp (sa (si (si S 1656 (nI n)) 1657 (nI (u + 1))) 17 (va_up (S.2.1 17) p (S.2.1 36 n))))) := by
  refine Sp_of (by decide +kernel) (Nat.le_of_ble_eq_true rfl) ?_
  show AW none MX1_stepBack 2 0 0 0 [.ref 33] [] (hp S) _
  refine k_aload_n eX1_stepBack_0 rfl ?_
  refine GX1_24 eX1_stepBack_1 rfl ?_
  refine k_topi (nI (n + 1)) hn ?_
  refine k_if_gtN 10 eX1_stepBack_4 (by decide) (by omega) (fun c_4 => ?_) (fun c_4 => by exfalso; omega)
  refine k_aload_n eX1_stepBack_10 rfl ?_
  refine k_dup eX1_stepBack_11 rfl ?_
  refine GX1_24 eX1_stepBack_12 rfl ?_
  refine k_topi (nI (n + 1)) hn ?_
  refine k_iconst (v := nI 1) eX1_stepBack_15 (by decide) ?_
  refine k_isubN eX1_stepBack_16 (by omega) ?_
  refine PX1_24 eX1_stepBack_17 rfl ?_
  refine k_aload_n eX1_stepBack_20 rfl ?_
  refine k_dup eX1_stepBack_21 rfl ?_
  refine GX1_28 eX1_stepBack_22 rfl ?_
  refine k_topi (nI u) hu ?_
  refine k_iconst (v := nI 1) eX1_stepBack_25 (by decide) ?_
  refine k_iaddN eX1_stepBack_26 ?_
  refine PX1_28 eX1_stepBack_27 rfl ?_
  refine k_aload_n eX1_stepBack_30 rfl ?_
  refine k_aload_n eX1_stepBack_31 rfl ?_
  refine GX1_11 eX1_stepBack_32 rfl ?_
  refine k_aload_n eX1_stepBack_35 rfl ?_
  refine GX1_24 eX1_stepBack_36 rfl ?_
  refine k_topi (nI n) rfl ?_
  refine cN1 (M' := MX11_read) eX1_stepBack_39 mX1_54 wX11_read sX11_read rfl (pX11_readN (j := n) (ar34 _) (by omega) (by decide)) (by decide) (Nat.le_of_ble_eq_true rfl) ?_
  refine k_topi (nI 1) hs ?_
  refine k_aload_n eX1_stepBack_42 rfl ?_
  refine GX1_15 eX1_stepBack_43 rfl ?_
  refine k_aload_n eX1_stepBack_46 rfl ?_
  refine GX1_24 eX1_stepBack_47 rfl ?_
  refine k_topi (nI n) rfl ?_
  refine cN1 (M' := MX11_read) eX1_stepBack_50 mX1_54 wX11_read sX11_read rfl (pX11_readN (j := n) (ar35 _) (by omega) (by decide)) (by decide) (Nat.le_of_ble_eq_true rfl) ?_
  refine k_topi (nI p) hq ?_
  refine k_aload_n eX1_stepBack_53 rfl ?_
  refine GX1_18 eX1_stepBack_54 rfl ?_
  refine k_aload_n eX1_stepBack_57 rfl ?_
  refine GX1_24 eX1_stepBack_58 rfl ?_
  refine k_topi (nI n) rfl ?_
  refine cN1 (M' := MX11_read) eX1_stepBack_61 mX1_54 wX11_read sX11_read rfl (pX11_readN (j := n) (ar36 _) (by omega) (by decide)) (by decide) (Nat.le_of_ble_eq_true rfl) ?_
  refine cV0 (M' := MX1_become) eX1_stepBack_64 mX1_50 wX1_become vX1_become ⟨_, _, _, rfl, rfl, rfl⟩ rfl (pX1_become1 (S := (si (si S 1656 (nI ((n + 1) - 1))) 1657 (nI (u + 1)))) (p := p) (by omega) ((((si (si S 1656 (nI ((n + 1) - 1))) 1657 (nI (u + 1)))).2.1 36 n))) (by decide) (Nat.le_of_ble_eq_true rfl) ?_
  refine k_aload_n eX1_stepBack_67 rfl ?_
  refine GX1_24 eX1_stepBack_68 rfl ?_
  refine k_topi (nI n) rfl ?_
  refine k_ireturn eX1_stepBack_71 rfl rfl ?_
  exact ⟨rfl, rfl⟩
set_option maxHeartbeats 400000 in
theorem pX1_stepAhead1 {S : k_S} {n p u : Nat} (hn : S.1 1656 = nI n) (hn40 : n < 40) (hu : S.1 1657 = nI (u + 1)) (hu2 : u ≤ 40) (hs : S.2.1 34 n = nI 1) (hq : S.2.1 35 n = nI p) (hpp : p < 6) : Sp 2 0 0 MX1_stepAhead [.ref 33] (hp S) (Rt (some (.int (nI u))) (hp (si (si (sa S 17 (va_up (S.2.1 17) p (S.2.1 37 n))) 1656 (nI (n + 1))) 1657 (nI u)))) := by
  refine Sp_of (by decide +kernel) (Nat.le_of_ble_eq_true rfl) ?_
  show AW none MX1_stepAhead 2 0 0 0 [.ref 33] [] (hp S) _
  refine k_aload_n eX1_stepAhead_0 rfl ?_
  refine GX1_28 eX1_stepAhead_1 rfl ?_
  refine k_topi (nI (u + 1)) hu ?_
  refine k_if_gtN 10 eX1_stepAhead_4 (by decide) (by omega) (fun c_4 => ?_) (fun c_4 => by exfalso; omega)
  refine k_aload_n eX1_stepAhead_10 rfl ?_
  refine k_aload_n eX1_stepAhead_11 rfl ?_
  refine GX1_11 eX1_stepAhead_12 rfl ?_
  refine k_aload_n eX1_stepAhead_15 rfl ?_
  refine GX1_24 eX1_stepAhead_16 rfl ?_
  refine k_topi (nI n) hn ?_
  refine cN1 (M' := MX11_read) eX1_stepAhead_19 mX1_54 wX11_read sX11_read rfl (pX11_readN (j := n) (ar34 _) (by omega) (by decide)) (by decide) (Nat.le_of_ble_eq_true rfl) ?_
  refine k_topi (nI 1) hs ?_
  refine k_aload_n eX1_stepAhead_22 rfl ?_
  refine GX1_15 eX1_stepAhead_23 rfl ?_
  refine k_aload_n eX1_stepAhead_26 rfl ?_
  refine GX1_24 eX1_stepAhead_27 rfl ?_
  refine k_topi (nI n) hn ?_
  refine cN1 (M' := MX11_read) eX1_stepAhead_30 mX1_54 wX11_read sX11_read rfl (pX11_readN (j := n) (ar35 _) (by omega) (by decide)) (by decide) (Nat.le_of_ble_eq_true rfl) ?_
  refine k_topi (nI p) hq ?_
  refine k_aload_n eX1_stepAhead_33 rfl ?_
  refine GX1_21 eX1_stepAhead_34 rfl ?_
  refine k_aload_n eX1_stepAhead_37 rfl ?_
  refine GX1_24 eX1_stepAhead_38 rfl ?_
  refine k_topi (nI n) hn ?_
  refine cN1 (M' := MX11_read) eX1_stepAhead_41 mX1_54 wX11_read sX11_read rfl (pX11_readN (j := n) (ar37 _) (by omega) (by decide)) (by decide) (Nat.le_of_ble_eq_true rfl) ?_
  refine cV0 (M' := MX1_become) eX1_stepAhead_44 mX1_50 wX1_become vX1_become ⟨_, _, _, rfl, rfl, rfl⟩ rfl (pX1_become1 (S := S) (p := p) (by omega) (((S).2.1 37 n))) (by decide) (Nat.le_of_ble_eq_true rfl) ?_
  refine k_aload_n eX1_stepAhead_47 rfl ?_
  refine k_dup eX1_stepAhead_48 rfl ?_
  refine GX1_24 eX1_stepAhead_49 rfl ?_
  refine k_topi (nI n) hn ?_
  refine k_iconst (v := nI 1) eX1_stepAhead_52 (by decide) ?_
  refine k_iaddN eX1_stepAhead_53 ?_
  refine PX1_24 eX1_stepAhead_54 rfl ?_
  refine k_aload_n eX1_stepAhead_57 rfl ?_
  refine k_dup eX1_stepAhead_58 rfl ?_
  refine GX1_28 eX1_stepAhead_59 rfl ?_
  refine k_topi (nI (u + 1)) hu ?_
  refine k_iconst (v := nI 1) eX1_stepAhead_62 (by decide) ?_
  refine k_isubN eX1_stepAhead_63 (by omega) ?_
  refine PX1_28 eX1_stepAhead_64 rfl ?_
  refine k_aload_n eX1_stepAhead_67 rfl ?_
  refine GX1_28 eX1_stepAhead_68 rfl ?_
  refine k_topi (nI u) rfl ?_
  refine k_ireturn eX1_stepAhead_71 rfl rfl ?_
  exact ⟨rfl, rfl⟩
set_option maxHeartbeats 400000 in
theorem pX1_tell2s {S : k_S} {p : Nat} (hpp : p < 6) (v : Int32) (he : S.2.1 18 p = v) : Sp 2 0 0 MX1_tell [.ref 33, .int (nI 2), .int (nI p), .int (v)] (hp S) (Rt (some (.int (v))) (hp S)) := by
  refine Sp_of (by decide +kernel) (Nat.le_of_ble_eq_true rfl) ?_
  show AW none MX1_tell 2 0 0 0 [.ref 33, .int (nI 2), .int (nI p), .int (v), .null] [] (hp S) _
  refine k_aload_n eX1_tell_0 rfl ?_
  refine k_iload_n eX1_tell_1 rfl ?_
  refine k_iload_n eX1_tell_2 rfl ?_
  refine cV1 (M' := MX1_now) eX1_tell_3 mX1_39 wX1_now vX1_now ⟨_, _, _, rfl, rfl, rfl⟩ rfl (pX1_now2 (S := S) (p := p) (by omega)) (by decide) (Nat.le_of_ble_eq_true rfl) ?_
  refine k_topi (v) he ?_
  refine k_istore (L2 := [_, _, _, _, _]) eX1_tell_6 (Nat.le_of_ble_eq_true rfl) rfl ?_
  refine k_iload eX1_tell_8 rfl ?_
  refine k_iload_n eX1_tell_10 rfl ?_
  refine k_icmp_ne 17 eX1_tell_11 (by decide) (fun c_11 => by exact absurd rfl c_11) (fun c_11 => ?_)
  refine k_iload eX1_tell_14 rfl ?_
  refine k_ireturn eX1_tell_16 rfl rfl ?_
  exact ⟨rfl, rfl⟩
set_option maxHeartbeats 400000 in
theorem pX1_tell2n {S : k_S} {p : Nat} (hpp : p < 6) (v : Int32) (he : S.2.1 18 p ≠ v) {n : Nat} (hn : S.1 1656 = nI n) (hn40 : n < 40) : Sp 2 0 0 MX1_tell [.ref 33, .int (nI 2), .int (nI p), .int (v)] (hp S) (Rt (some (.int (S.2.1 18 p))) (hp (sa (chP (si S 1657 (nI 0)) n 2 p (S.2.1 18 p) v) 18 (va_up (S.2.1 18) p v)))) := by
  refine Sp_of (by decide +kernel) (Nat.le_of_ble_eq_true rfl) ?_
  show AW none MX1_tell 2 0 0 0 [.ref 33, .int (nI 2), .int (nI p), .int (v), .null] [] (hp S) _
  refine k_aload_n eX1_tell_0 rfl ?_
  refine k_iload_n eX1_tell_1 rfl ?_
  refine k_iload_n eX1_tell_2 rfl ?_
  refine cV1 (M' := MX1_now) eX1_tell_3 mX1_39 wX1_now vX1_now ⟨_, _, _, rfl, rfl, rfl⟩ rfl (pX1_now2 (S := S) (p := p) (by omega)) (by decide) (Nat.le_of_ble_eq_true rfl) ?_
  refine k_istore (L2 := [_, _, _, _, _]) eX1_tell_6 (Nat.le_of_ble_eq_true rfl) rfl ?_
  refine k_iload eX1_tell_8 rfl ?_
  refine k_iload_n eX1_tell_10 rfl ?_
  refine k_icmp_ne 17 eX1_tell_11 (by decide) (fun c_11 => ?_) (fun c_11 => by exact absurd c_11 he)
  refine k_aload_n eX1_tell_17 rfl ?_
  refine k_iconst (v := nI 0) eX1_tell_18 (by decide) ?_
  refine PX1_28 eX1_tell_19 rfl ?_
  refine k_aload_n eX1_tell_22 rfl ?_
  refine GX1_24 eX1_tell_23 rfl ?_
  refine k_topi (nI n) hn ?_
  refine k_bipush (v := nI 40) eX1_tell_26 (by decide) ?_
  refine k_icmp_ltN 35 eX1_tell_28 (by decide) (by omega) (by omega) (fun c_28 => ?_) (fun c_28 => by exfalso; omega)
  refine k_aload_n eX1_tell_35 rfl ?_
  refine GX1_11 eX1_tell_36 rfl ?_
  refine k_aload_n eX1_tell_39 rfl ?_
  refine GX1_24 eX1_tell_40 rfl ?_
  refine k_topi (nI n) hn ?_
  refine k_iload_n eX1_tell_43 rfl ?_
  refine cN0 (M' := MX11_write) eX1_tell_44 mX1_46 wX11_write sX11_write rfl (pX11_writeN (j := n) (v := nI 2) (ar34 _) (by omega) (by decide) (as34 _ _)) (by decide) (Nat.le_of_ble_eq_true rfl) ?_
  refine k_aload_n eX1_tell_47 rfl ?_
  refine GX1_15 eX1_tell_48 rfl ?_
  refine k_aload_n eX1_tell_51 rfl ?_
  refine GX1_24 eX1_tell_52 rfl ?_
  refine k_topi (nI n) hn ?_
  refine k_iload_n eX1_tell_55 rfl ?_
  refine cN0 (M' := MX11_write) eX1_tell_56 mX1_46 wX11_write sX11_write rfl (pX11_writeN (j := n) (v := nI p) (ar35 _) (by omega) (by decide) (as35 _ _)) (by decide) (Nat.le_of_ble_eq_true rfl) ?_
  refine k_aload_n eX1_tell_59 rfl ?_
  refine GX1_18 eX1_tell_60 rfl ?_
  refine k_aload_n eX1_tell_63 rfl ?_
  refine GX1_24 eX1_tell_64 rfl ?_
  refine k_topi (nI n) hn ?_
  refine k_iload eX1_tell_67 rfl ?_
  refine cN0 (M' := MX11_write) eX1_tell_69 mX1_46 wX11_write sX11_write rfl (pX11_writeN (j := n) (v := ((S).2.1 18 p)) (ar36 _) (by omega) (by decide) (as36 _ _)) (by decide) (Nat.le_of_ble_eq_true rfl) ?_
  refine k_aload_n eX1_tell_72 rfl ?_
  refine GX1_21 eX1_tell_73 rfl ?_
  refine k_aload_n eX1_tell_76 rfl ?_
  refine GX1_24 eX1_tell_77 rfl ?_
  refine k_topi (nI n) hn ?_
  refine k_iload_n eX1_tell_80 rfl ?_
  refine cN0 (M' := MX11_write) eX1_tell_81 mX1_46 wX11_write sX11_write rfl (pX11_writeN (j := n) (v := v) (ar37 _) (by omega) (by decide) (as37 _ _)) (by decide) (Nat.le_of_ble_eq_true rfl) ?_
  refine k_aload_n eX1_tell_84 rfl ?_
  refine k_dup eX1_tell_85 rfl ?_
  refine GX1_24 eX1_tell_86 rfl ?_
  refine k_topi (nI n) hn ?_
  refine k_iconst (v := nI 1) eX1_tell_89 (by decide) ?_
  refine k_iaddN eX1_tell_90 ?_
  refine PX1_24 eX1_tell_91 rfl ?_
  refine k_aload_n eX1_tell_94 rfl ?_
  refine k_iload_n eX1_tell_95 rfl ?_
  refine k_iload_n eX1_tell_96 rfl ?_
  refine k_iload_n eX1_tell_97 rfl ?_
  refine cV0 (M' := MX1_become) eX1_tell_98 mX1_50 wX1_become vX1_become ⟨_, _, _, rfl, rfl, rfl⟩ rfl (pX1_become2 (S := (si (sa (sa (sa (sa (si S 1657 (nI 0)) 34 (va_up (((si S 1657 (nI 0))).2.1 34) n (nI 2))) 35 (va_up (((sa (si S 1657 (nI 0)) 34 (va_up (((si S 1657 (nI 0))).2.1 34) n (nI 2)))).2.1 35) n (nI p))) 36 (va_up (((sa (sa (si S 1657 (nI 0)) 34 (va_up (((si S 1657 (nI 0))).2.1 34) n (nI 2))) 35 (va_up (((sa (si S 1657 (nI 0)) 34 (va_up (((si S 1657 (nI 0))).2.1 34) n (nI 2)))).2.1 35) n (nI p)))).2.1 36) n (((S).2.1 18 p)))) 37 (va_up (((sa (sa (sa (si S 1657 (nI 0)) 34 (va_up (((si S 1657 (nI 0))).2.1 34) n (nI 2))) 35 (va_up (((sa (si S 1657 (nI 0)) 34 (va_up (((si S 1657 (nI 0))).2.1 34) n (nI 2)))).2.1 35) n (nI p))) 36 (va_up (((sa (sa (si S 1657 (nI 0)) 34 (va_up (((si S 1657 (nI 0))).2.1 34) n (nI 2))) 35 (va_up (((sa (si S 1657 (nI 0)) 34 (va_up (((si S 1657 (nI 0))).2.1 34) n (nI 2)))).2.1 35) n (nI p)))).2.1 36) n (((S).2.1 18 p))))).2.1 37) n (v))) 1656 (nI (n + 1)))) (p := p) (by omega) (v)) (by decide) (Nat.le_of_ble_eq_true rfl) ?_
  refine k_iload eX1_tell_101 rfl ?_
  refine k_ireturn eX1_tell_103 rfl rfl ?_
  exact ⟨rfl, rfl⟩
set_option maxHeartbeats 400000 in
theorem pX1_tell2f {S : k_S} {p : Nat} (hpp : p < 6) (v : Int32) (he : S.2.1 18 p ≠ v) (hn : S.1 1656 = nI 40) : Sp 2 0 0 MX1_tell [.ref 33, .int (nI 2), .int (nI p), .int (v)] (hp S) (Rt (some (.int (S.2.1 18 p))) (hp (sa (chP (drS (si S 1657 (nI 0))) 39 2 p (S.2.1 18 p) v) 18 (va_up (S.2.1 18) p v)))) := by
  refine Sp_of (by decide +kernel) (Nat.le_of_ble_eq_true rfl) ?_
  show AW none MX1_tell 2 0 0 0 [.ref 33, .int (nI 2), .int (nI p), .int (v), .null] [] (hp S) _
  refine k_aload_n eX1_tell_0 rfl ?_
  refine k_iload_n eX1_tell_1 rfl ?_
  refine k_iload_n eX1_tell_2 rfl ?_
  refine cV1 (M' := MX1_now) eX1_tell_3 mX1_39 wX1_now vX1_now ⟨_, _, _, rfl, rfl, rfl⟩ rfl (pX1_now2 (S := S) (p := p) (by omega)) (by decide) (Nat.le_of_ble_eq_true rfl) ?_
  refine k_istore (L2 := [_, _, _, _, _]) eX1_tell_6 (Nat.le_of_ble_eq_true rfl) rfl ?_
  refine k_iload eX1_tell_8 rfl ?_
  refine k_iload_n eX1_tell_10 rfl ?_
  refine k_icmp_ne 17 eX1_tell_11 (by decide) (fun c_11 => ?_) (fun c_11 => by exact absurd c_11 he)
  refine k_aload_n eX1_tell_17 rfl ?_
  refine k_iconst (v := nI 0) eX1_tell_18 (by decide) ?_
  refine PX1_28 eX1_tell_19 rfl ?_
  refine k_aload_n eX1_tell_22 rfl ?_
  refine GX1_24 eX1_tell_23 rfl ?_
  refine k_topi (nI 40) hn ?_
  refine k_bipush (v := nI 40) eX1_tell_26 (by decide) ?_
  refine k_icmp_ltN 35 eX1_tell_28 (by decide) (by omega) (by omega) (fun c_28 => by exfalso; omega) (fun c_28 => ?_)
  refine k_aload_n eX1_tell_31 rfl ?_
  refine cV0 (M' := MX1_dropOldest) eX1_tell_32 mX1_43 wX1_dropOldest vX1_dropOldest ⟨_, _, _, rfl, rfl, rfl⟩ rfl (pX1_dropOldest (S := (si S 1657 (nI 0))) ) (by decide) (Nat.le_of_ble_eq_true rfl) ?_
  obtain ⟨T, hT⟩ : ∃ T, drS (si S 1657 (nI 0)) = T := ⟨_, rfl⟩
  have hTn : T.1 1656 = nI 39 := by rw [← hT]; rfl
  have hTa : T.2.1 18 = S.2.1 18 := by rw [← hT]; exact drT_2 (si S 1657 (nI 0)) (by decide) 39
  rw [hT]
  refine k_aload_n eX1_tell_35 rfl ?_
  refine GX1_11 eX1_tell_36 rfl ?_
  refine k_aload_n eX1_tell_39 rfl ?_
  refine GX1_24 eX1_tell_40 rfl ?_
  refine k_topi (nI 39) hTn ?_
  refine k_iload_n eX1_tell_43 rfl ?_
  refine cN0 (M' := MX11_write) eX1_tell_44 mX1_46 wX11_write sX11_write rfl (pX11_writeN (j := 39) (v := nI 2) (ar34 _) (by omega) (by decide) (as34 _ _)) (by decide) (Nat.le_of_ble_eq_true rfl) ?_
  refine k_aload_n eX1_tell_47 rfl ?_
  refine GX1_15 eX1_tell_48 rfl ?_
  refine k_aload_n eX1_tell_51 rfl ?_
  refine GX1_24 eX1_tell_52 rfl ?_
  refine k_topi (nI 39) hTn ?_
  refine k_iload_n eX1_tell_55 rfl ?_
  refine cN0 (M' := MX11_write) eX1_tell_56 mX1_46 wX11_write sX11_write rfl (pX11_writeN (j := 39) (v := nI p) (ar35 _) (by omega) (by decide) (as35 _ _)) (by decide) (Nat.le_of_ble_eq_true rfl) ?_
  refine k_aload_n eX1_tell_59 rfl ?_
  refine GX1_18 eX1_tell_60 rfl ?_
  refine k_aload_n eX1_tell_63 rfl ?_
  refine GX1_24 eX1_tell_64 rfl ?_
  refine k_topi (nI 39) hTn ?_
  refine k_iload eX1_tell_67 rfl ?_
  refine cN0 (M' := MX11_write) eX1_tell_69 mX1_46 wX11_write sX11_write rfl (pX11_writeN (j := 39) (v := ((S).2.1 18 p)) (ar36 _) (by omega) (by decide) (as36 _ _)) (by decide) (Nat.le_of_ble_eq_true rfl) ?_
  refine k_aload_n eX1_tell_72 rfl ?_
  refine GX1_21 eX1_tell_73 rfl ?_
  refine k_aload_n eX1_tell_76 rfl ?_
  refine GX1_24 eX1_tell_77 rfl ?_
  refine k_topi (nI 39) hTn ?_
  refine k_iload_n eX1_tell_80 rfl ?_
  refine cN0 (M' := MX11_write) eX1_tell_81 mX1_46 wX11_write sX11_write rfl (pX11_writeN (j := 39) (v := v) (ar37 _) (by omega) (by decide) (as37 _ _)) (by decide) (Nat.le_of_ble_eq_true rfl) ?_
  refine k_aload_n eX1_tell_84 rfl ?_
  refine k_dup eX1_tell_85 rfl ?_
  refine GX1_24 eX1_tell_86 rfl ?_
  refine k_topi (nI 39) hTn ?_
  refine k_iconst (v := nI 1) eX1_tell_89 (by decide) ?_
  refine k_iaddN eX1_tell_90 ?_
  refine PX1_24 eX1_tell_91 rfl ?_
  refine k_aload_n eX1_tell_94 rfl ?_
  refine k_iload_n eX1_tell_95 rfl ?_
  refine k_iload_n eX1_tell_96 rfl ?_
  refine k_iload_n eX1_tell_97 rfl ?_
  refine cV0 (M' := MX1_become) eX1_tell_98 mX1_50 wX1_become vX1_become ⟨_, _, _, rfl, rfl, rfl⟩ rfl (pX1_become2 (S := (si (sa (sa (sa (sa T 34 (va_up ((T).2.1 34) 39 (nI 2))) 35 (va_up (((sa T 34 (va_up ((T).2.1 34) 39 (nI 2)))).2.1 35) 39 (nI p))) 36 (va_up (((sa (sa T 34 (va_up ((T).2.1 34) 39 (nI 2))) 35 (va_up (((sa T 34 (va_up ((T).2.1 34) 39 (nI 2)))).2.1 35) 39 (nI p)))).2.1 36) 39 (((S).2.1 18 p)))) 37 (va_up (((sa (sa (sa T 34 (va_up ((T).2.1 34) 39 (nI 2))) 35 (va_up (((sa T 34 (va_up ((T).2.1 34) 39 (nI 2)))).2.1 35) 39 (nI p))) 36 (va_up (((sa (sa T 34 (va_up ((T).2.1 34) 39 (nI 2))) 35 (va_up (((sa T 34 (va_up ((T).2.1 34) 39 (nI 2)))).2.1 35) 39 (nI p)))).2.1 36) 39 (((S).2.1 18 p))))).2.1 37) 39 (v))) 1656 (nI 40))) (p := p) (by omega) (v)) (by decide) (Nat.le_of_ble_eq_true rfl) ?_
  refine k_iload eX1_tell_101 rfl ?_
  refine k_ireturn eX1_tell_103 rfl rfl ?_
  exact ⟨rfl, by rw [← hTa]; rfl⟩
set_option maxHeartbeats 400000 in
theorem pX1_stepBack2 {S : k_S} {n p u : Nat} (hn : S.1 1656 = nI (n + 1)) (hn40 : n < 40) (hu : S.1 1657 = nI u) (hu2 : u ≤ 40) (hs : S.2.1 34 n = nI 2) (hq : S.2.1 35 n = nI p) (hpp : p < 6) : Sp 2 0 0 MX1_stepBack [.ref 33] (hp S) (Rt (some (.int (nI n))) (hp (sa (si (si S 1656 (nI n)) 1657 (nI (u + 1))) 18 (va_up (S.2.1 18) p (S.2.1 36 n))))) := by
  refine Sp_of (by decide +kernel) (Nat.le_of_ble_eq_true rfl) ?_
  show AW none MX1_stepBack 2 0 0 0 [.ref 33] [] (hp S) _
  refine k_aload_n eX1_stepBack_0 rfl ?_
  refine GX1_24 eX1_stepBack_1 rfl ?_
  refine k_topi (nI (n + 1)) hn ?_
  refine k_if_gtN 10 eX1_stepBack_4 (by decide) (by omega) (fun c_4 => ?_) (fun c_4 => by exfalso; omega)
  refine k_aload_n eX1_stepBack_10 rfl ?_
  refine k_dup eX1_stepBack_11 rfl ?_
  refine GX1_24 eX1_stepBack_12 rfl ?_
  refine k_topi (nI (n + 1)) hn ?_
  refine k_iconst (v := nI 1) eX1_stepBack_15 (by decide) ?_
  refine k_isubN eX1_stepBack_16 (by omega) ?_
  refine PX1_24 eX1_stepBack_17 rfl ?_
  refine k_aload_n eX1_stepBack_20 rfl ?_
  refine k_dup eX1_stepBack_21 rfl ?_
  refine GX1_28 eX1_stepBack_22 rfl ?_
  refine k_topi (nI u) hu ?_
  refine k_iconst (v := nI 1) eX1_stepBack_25 (by decide) ?_
  refine k_iaddN eX1_stepBack_26 ?_
  refine PX1_28 eX1_stepBack_27 rfl ?_
  refine k_aload_n eX1_stepBack_30 rfl ?_
  refine k_aload_n eX1_stepBack_31 rfl ?_
  refine GX1_11 eX1_stepBack_32 rfl ?_
  refine k_aload_n eX1_stepBack_35 rfl ?_
  refine GX1_24 eX1_stepBack_36 rfl ?_
  refine k_topi (nI n) rfl ?_
  refine cN1 (M' := MX11_read) eX1_stepBack_39 mX1_54 wX11_read sX11_read rfl (pX11_readN (j := n) (ar34 _) (by omega) (by decide)) (by decide) (Nat.le_of_ble_eq_true rfl) ?_
  refine k_topi (nI 2) hs ?_
  refine k_aload_n eX1_stepBack_42 rfl ?_
  refine GX1_15 eX1_stepBack_43 rfl ?_
  refine k_aload_n eX1_stepBack_46 rfl ?_
  refine GX1_24 eX1_stepBack_47 rfl ?_
  refine k_topi (nI n) rfl ?_
  refine cN1 (M' := MX11_read) eX1_stepBack_50 mX1_54 wX11_read sX11_read rfl (pX11_readN (j := n) (ar35 _) (by omega) (by decide)) (by decide) (Nat.le_of_ble_eq_true rfl) ?_
  refine k_topi (nI p) hq ?_
  refine k_aload_n eX1_stepBack_53 rfl ?_
  refine GX1_18 eX1_stepBack_54 rfl ?_
  refine k_aload_n eX1_stepBack_57 rfl ?_
  refine GX1_24 eX1_stepBack_58 rfl ?_
  refine k_topi (nI n) rfl ?_
  refine cN1 (M' := MX11_read) eX1_stepBack_61 mX1_54 wX11_read sX11_read rfl (pX11_readN (j := n) (ar36 _) (by omega) (by decide)) (by decide) (Nat.le_of_ble_eq_true rfl) ?_
  refine cV0 (M' := MX1_become) eX1_stepBack_64 mX1_50 wX1_become vX1_become ⟨_, _, _, rfl, rfl, rfl⟩ rfl (pX1_become2 (S := (si (si S 1656 (nI ((n + 1) - 1))) 1657 (nI (u + 1)))) (p := p) (by omega) ((((si (si S 1656 (nI ((n + 1) - 1))) 1657 (nI (u + 1)))).2.1 36 n))) (by decide) (Nat.le_of_ble_eq_true rfl) ?_
  refine k_aload_n eX1_stepBack_67 rfl ?_
  refine GX1_24 eX1_stepBack_68 rfl ?_
  refine k_topi (nI n) rfl ?_
  refine k_ireturn eX1_stepBack_71 rfl rfl ?_
  exact ⟨rfl, rfl⟩
set_option maxHeartbeats 400000 in
theorem pX1_stepAhead2 {S : k_S} {n p u : Nat} (hn : S.1 1656 = nI n) (hn40 : n < 40) (hu : S.1 1657 = nI (u + 1)) (hu2 : u ≤ 40) (hs : S.2.1 34 n = nI 2) (hq : S.2.1 35 n = nI p) (hpp : p < 6) : Sp 2 0 0 MX1_stepAhead [.ref 33] (hp S) (Rt (some (.int (nI u))) (hp (si (si (sa S 18 (va_up (S.2.1 18) p (S.2.1 37 n))) 1656 (nI (n + 1))) 1657 (nI u)))) := by
  refine Sp_of (by decide +kernel) (Nat.le_of_ble_eq_true rfl) ?_
  show AW none MX1_stepAhead 2 0 0 0 [.ref 33] [] (hp S) _
  refine k_aload_n eX1_stepAhead_0 rfl ?_
  refine GX1_28 eX1_stepAhead_1 rfl ?_
  refine k_topi (nI (u + 1)) hu ?_
  refine k_if_gtN 10 eX1_stepAhead_4 (by decide) (by omega) (fun c_4 => ?_) (fun c_4 => by exfalso; omega)
  refine k_aload_n eX1_stepAhead_10 rfl ?_
  refine k_aload_n eX1_stepAhead_11 rfl ?_
  refine GX1_11 eX1_stepAhead_12 rfl ?_
  refine k_aload_n eX1_stepAhead_15 rfl ?_
  refine GX1_24 eX1_stepAhead_16 rfl ?_
  refine k_topi (nI n) hn ?_
  refine cN1 (M' := MX11_read) eX1_stepAhead_19 mX1_54 wX11_read sX11_read rfl (pX11_readN (j := n) (ar34 _) (by omega) (by decide)) (by decide) (Nat.le_of_ble_eq_true rfl) ?_
  refine k_topi (nI 2) hs ?_
  refine k_aload_n eX1_stepAhead_22 rfl ?_
  refine GX1_15 eX1_stepAhead_23 rfl ?_
  refine k_aload_n eX1_stepAhead_26 rfl ?_
  refine GX1_24 eX1_stepAhead_27 rfl ?_
  refine k_topi (nI n) hn ?_
  refine cN1 (M' := MX11_read) eX1_stepAhead_30 mX1_54 wX11_read sX11_read rfl (pX11_readN (j := n) (ar35 _) (by omega) (by decide)) (by decide) (Nat.le_of_ble_eq_true rfl) ?_
  refine k_topi (nI p) hq ?_
  refine k_aload_n eX1_stepAhead_33 rfl ?_
  refine GX1_21 eX1_stepAhead_34 rfl ?_
  refine k_aload_n eX1_stepAhead_37 rfl ?_
  refine GX1_24 eX1_stepAhead_38 rfl ?_
  refine k_topi (nI n) hn ?_
  refine cN1 (M' := MX11_read) eX1_stepAhead_41 mX1_54 wX11_read sX11_read rfl (pX11_readN (j := n) (ar37 _) (by omega) (by decide)) (by decide) (Nat.le_of_ble_eq_true rfl) ?_
  refine cV0 (M' := MX1_become) eX1_stepAhead_44 mX1_50 wX1_become vX1_become ⟨_, _, _, rfl, rfl, rfl⟩ rfl (pX1_become2 (S := S) (p := p) (by omega) (((S).2.1 37 n))) (by decide) (Nat.le_of_ble_eq_true rfl) ?_
  refine k_aload_n eX1_stepAhead_47 rfl ?_
  refine k_dup eX1_stepAhead_48 rfl ?_
  refine GX1_24 eX1_stepAhead_49 rfl ?_
  refine k_topi (nI n) hn ?_
  refine k_iconst (v := nI 1) eX1_stepAhead_52 (by decide) ?_
  refine k_iaddN eX1_stepAhead_53 ?_
  refine PX1_24 eX1_stepAhead_54 rfl ?_
  refine k_aload_n eX1_stepAhead_57 rfl ?_
  refine k_dup eX1_stepAhead_58 rfl ?_
  refine GX1_28 eX1_stepAhead_59 rfl ?_
  refine k_topi (nI (u + 1)) hu ?_
  refine k_iconst (v := nI 1) eX1_stepAhead_62 (by decide) ?_
  refine k_isubN eX1_stepAhead_63 (by omega) ?_
  refine PX1_28 eX1_stepAhead_64 rfl ?_
  refine k_aload_n eX1_stepAhead_67 rfl ?_
  refine GX1_28 eX1_stepAhead_68 rfl ?_
  refine k_topi (nI u) rfl ?_
  refine k_ireturn eX1_stepAhead_71 rfl rfl ?_
  exact ⟨rfl, rfl⟩
set_option maxHeartbeats 400000 in
theorem pX1_stepBackN {S : k_S} (hn : S.1 1656 = nI 0) : Sp 0 0 0 MX1_stepBack [.ref 33] (hp S) (Rt (some (.int (-5))) (hp S)) := by
  refine Sp_of (by decide +kernel) (Nat.le_of_ble_eq_true rfl) ?_
  show AW none MX1_stepBack 0 0 0 0 [.ref 33] [] (hp S) _
  refine k_aload_n eX1_stepBack_0 rfl ?_
  refine GX1_24 eX1_stepBack_1 rfl ?_
  refine k_topi (nI 0) hn ?_
  refine k_if_gtN 10 eX1_stepBack_4 (by decide) (by omega) (fun c_4 => by exfalso; omega) (fun c_4 => ?_)
  refine k_bipush (v := (-5)) eX1_stepBack_7 (by decide) ?_
  refine k_ireturn eX1_stepBack_9 rfl rfl ?_
  exact ⟨rfl, rfl⟩
set_option maxHeartbeats 400000 in
theorem pX1_stepAheadN {S : k_S} (hu : S.1 1657 = nI 0) : Sp 0 0 0 MX1_stepAhead [.ref 33] (hp S) (Rt (some (.int (-5))) (hp S)) := by
  refine Sp_of (by decide +kernel) (Nat.le_of_ble_eq_true rfl) ?_
  show AW none MX1_stepAhead 0 0 0 0 [.ref 33] [] (hp S) _
  refine k_aload_n eX1_stepAhead_0 rfl ?_
  refine GX1_28 eX1_stepAhead_1 rfl ?_
  refine k_topi (nI 0) hu ?_
  refine k_if_gtN 10 eX1_stepAhead_4 (by decide) (by omega) (fun c_4 => by exfalso; omega) (fun c_4 => ?_)
  refine k_bipush (v := (-5)) eX1_stepAhead_7 (by decide) ?_
  refine k_ireturn eX1_stepAhead_9 rfl rfl ?_
  exact ⟨rfl, rfl⟩
