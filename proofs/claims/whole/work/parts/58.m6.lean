set_option maxHeartbeats 400000 in
theorem pX12_above0 {h : k_H} : Sp 0 0 0 MX12_above [.int (nI 0)] h (Rt (some (.int (-1))) (h)) := by
  refine Sp_of (by decide +kernel) (Nat.le_of_ble_eq_true rfl) ?_
  show AW none MX12_above 0 0 0 0 [.int (nI 0)] [] h _
  refine k_iload_n eX12_above_0 rfl ?_
  refine k_if_neN 8 eX12_above_1 (by decide) (by omega) (fun c_1 => by exfalso; omega) (fun c_1 => ?_)
  refine k_iconst (v := (-1)) eX12_above_4 (by decide) ?_
  refine k_goto 37 eX12_above_5 (by decide) ?_
  refine k_ireturn eX12_above_37 rfl rfl ?_
  exact ⟨rfl, rfl⟩
set_option maxHeartbeats 400000 in
theorem pX12_above1 {h : k_H} : Sp 0 0 0 MX12_above [.int (nI 1)] h (Rt (some (.int (nI 0))) (h)) := by
  refine Sp_of (by decide +kernel) (Nat.le_of_ble_eq_true rfl) ?_
  show AW none MX12_above 0 0 0 0 [.int (nI 1)] [] h _
  refine k_iload_n eX12_above_0 rfl ?_
  refine k_if_neN 8 eX12_above_1 (by decide) (by omega) (fun c_1 => ?_) (fun c_1 => by exfalso; omega)
  refine k_iload_n eX12_above_8 rfl ?_
  refine k_iconst (v := nI 3) eX12_above_9 (by decide) ?_
  refine k_icmp_neN 17 eX12_above_10 (by decide) (by omega) (by omega) (fun c_10 => ?_) (fun c_10 => by exfalso; omega)
  refine k_iload_n eX12_above_17 rfl ?_
  refine k_iconst (v := nI 5) eX12_above_18 (by decide) ?_
  refine k_icmp_neN 26 eX12_above_19 (by decide) (by omega) (by omega) (fun c_19 => ?_) (fun c_19 => by exfalso; omega)
  refine k_iload_n eX12_above_26 rfl ?_
  refine k_bipush (v := nI 7) eX12_above_27 (by decide) ?_
  refine k_icmp_neN 36 eX12_above_29 (by decide) (by omega) (by omega) (fun c_29 => ?_) (fun c_29 => by exfalso; omega)
  refine k_iconst (v := nI 0) eX12_above_36 (by decide) ?_
  refine k_ireturn eX12_above_37 rfl rfl ?_
  exact ⟨rfl, rfl⟩
set_option maxHeartbeats 400000 in
theorem pX12_above2 {h : k_H} : Sp 0 0 0 MX12_above [.int (nI 2)] h (Rt (some (.int (nI 0))) (h)) := by
  refine Sp_of (by decide +kernel) (Nat.le_of_ble_eq_true rfl) ?_
  show AW none MX12_above 0 0 0 0 [.int (nI 2)] [] h _
  refine k_iload_n eX12_above_0 rfl ?_
  refine k_if_neN 8 eX12_above_1 (by decide) (by omega) (fun c_1 => ?_) (fun c_1 => by exfalso; omega)
  refine k_iload_n eX12_above_8 rfl ?_
  refine k_iconst (v := nI 3) eX12_above_9 (by decide) ?_
  refine k_icmp_neN 17 eX12_above_10 (by decide) (by omega) (by omega) (fun c_10 => ?_) (fun c_10 => by exfalso; omega)
  refine k_iload_n eX12_above_17 rfl ?_
  refine k_iconst (v := nI 5) eX12_above_18 (by decide) ?_
  refine k_icmp_neN 26 eX12_above_19 (by decide) (by omega) (by omega) (fun c_19 => ?_) (fun c_19 => by exfalso; omega)
  refine k_iload_n eX12_above_26 rfl ?_
  refine k_bipush (v := nI 7) eX12_above_27 (by decide) ?_
  refine k_icmp_neN 36 eX12_above_29 (by decide) (by omega) (by omega) (fun c_29 => ?_) (fun c_29 => by exfalso; omega)
  refine k_iconst (v := nI 0) eX12_above_36 (by decide) ?_
  refine k_ireturn eX12_above_37 rfl rfl ?_
  exact ⟨rfl, rfl⟩
set_option maxHeartbeats 400000 in
theorem pX12_above3 {h : k_H} : Sp 0 0 0 MX12_above [.int (nI 3)] h (Rt (some (.int (nI 2))) (h)) := by
  refine Sp_of (by decide +kernel) (Nat.le_of_ble_eq_true rfl) ?_
  show AW none MX12_above 0 0 0 0 [.int (nI 3)] [] h _
  refine k_iload_n eX12_above_0 rfl ?_
  refine k_if_neN 8 eX12_above_1 (by decide) (by omega) (fun c_1 => ?_) (fun c_1 => by exfalso; omega)
  refine k_iload_n eX12_above_8 rfl ?_
  refine k_iconst (v := nI 3) eX12_above_9 (by decide) ?_
  refine k_icmp_neN 17 eX12_above_10 (by decide) (by omega) (by omega) (fun c_10 => by exfalso; omega) (fun c_10 => ?_)
  refine k_iconst (v := nI 2) eX12_above_13 (by decide) ?_
  refine k_goto 37 eX12_above_14 (by decide) ?_
  refine k_ireturn eX12_above_37 rfl rfl ?_
  exact ⟨rfl, rfl⟩
set_option maxHeartbeats 400000 in
theorem pX12_above4 {h : k_H} : Sp 0 0 0 MX12_above [.int (nI 4)] h (Rt (some (.int (nI 0))) (h)) := by
  refine Sp_of (by decide +kernel) (Nat.le_of_ble_eq_true rfl) ?_
  show AW none MX12_above 0 0 0 0 [.int (nI 4)] [] h _
  refine k_iload_n eX12_above_0 rfl ?_
  refine k_if_neN 8 eX12_above_1 (by decide) (by omega) (fun c_1 => ?_) (fun c_1 => by exfalso; omega)
  refine k_iload_n eX12_above_8 rfl ?_
  refine k_iconst (v := nI 3) eX12_above_9 (by decide) ?_
  refine k_icmp_neN 17 eX12_above_10 (by decide) (by omega) (by omega) (fun c_10 => ?_) (fun c_10 => by exfalso; omega)
  refine k_iload_n eX12_above_17 rfl ?_
  refine k_iconst (v := nI 5) eX12_above_18 (by decide) ?_
  refine k_icmp_neN 26 eX12_above_19 (by decide) (by omega) (by omega) (fun c_19 => ?_) (fun c_19 => by exfalso; omega)
  refine k_iload_n eX12_above_26 rfl ?_
  refine k_bipush (v := nI 7) eX12_above_27 (by decide) ?_
  refine k_icmp_neN 36 eX12_above_29 (by decide) (by omega) (by omega) (fun c_29 => ?_) (fun c_29 => by exfalso; omega)
  refine k_iconst (v := nI 0) eX12_above_36 (by decide) ?_
  refine k_ireturn eX12_above_37 rfl rfl ?_
  exact ⟨rfl, rfl⟩
set_option maxHeartbeats 400000 in
theorem pX12_above5 {h : k_H} : Sp 0 0 0 MX12_above [.int (nI 5)] h (Rt (some (.int (nI 1))) (h)) := by
  refine Sp_of (by decide +kernel) (Nat.le_of_ble_eq_true rfl) ?_
  show AW none MX12_above 0 0 0 0 [.int (nI 5)] [] h _
  refine k_iload_n eX12_above_0 rfl ?_
  refine k_if_neN 8 eX12_above_1 (by decide) (by omega) (fun c_1 => ?_) (fun c_1 => by exfalso; omega)
  refine k_iload_n eX12_above_8 rfl ?_
  refine k_iconst (v := nI 3) eX12_above_9 (by decide) ?_
  refine k_icmp_neN 17 eX12_above_10 (by decide) (by omega) (by omega) (fun c_10 => ?_) (fun c_10 => by exfalso; omega)
  refine k_iload_n eX12_above_17 rfl ?_
  refine k_iconst (v := nI 5) eX12_above_18 (by decide) ?_
  refine k_icmp_neN 26 eX12_above_19 (by decide) (by omega) (by omega) (fun c_19 => by exfalso; omega) (fun c_19 => ?_)
  refine k_iconst (v := nI 1) eX12_above_22 (by decide) ?_
  refine k_goto 37 eX12_above_23 (by decide) ?_
  refine k_ireturn eX12_above_37 rfl rfl ?_
  exact ⟨rfl, rfl⟩
set_option maxHeartbeats 400000 in
theorem pX12_above6 {h : k_H} : Sp 0 0 0 MX12_above [.int (nI 6)] h (Rt (some (.int (nI 0))) (h)) := by
  refine Sp_of (by decide +kernel) (Nat.le_of_ble_eq_true rfl) ?_
  show AW none MX12_above 0 0 0 0 [.int (nI 6)] [] h _
  refine k_iload_n eX12_above_0 rfl ?_
  refine k_if_neN 8 eX12_above_1 (by decide) (by omega) (fun c_1 => ?_) (fun c_1 => by exfalso; omega)
  refine k_iload_n eX12_above_8 rfl ?_
  refine k_iconst (v := nI 3) eX12_above_9 (by decide) ?_
  refine k_icmp_neN 17 eX12_above_10 (by decide) (by omega) (by omega) (fun c_10 => ?_) (fun c_10 => by exfalso; omega)
  refine k_iload_n eX12_above_17 rfl ?_
  refine k_iconst (v := nI 5) eX12_above_18 (by decide) ?_
  refine k_icmp_neN 26 eX12_above_19 (by decide) (by omega) (by omega) (fun c_19 => ?_) (fun c_19 => by exfalso; omega)
  refine k_iload_n eX12_above_26 rfl ?_
  refine k_bipush (v := nI 7) eX12_above_27 (by decide) ?_
  refine k_icmp_neN 36 eX12_above_29 (by decide) (by omega) (by omega) (fun c_29 => ?_) (fun c_29 => by exfalso; omega)
  refine k_iconst (v := nI 0) eX12_above_36 (by decide) ?_
  refine k_ireturn eX12_above_37 rfl rfl ?_
  exact ⟨rfl, rfl⟩
set_option maxHeartbeats 400000 in
theorem pX12_above7 {h : k_H} : Sp 0 0 0 MX12_above [.int (nI 7)] h (Rt (some (.int (nI 3))) (h)) := by
  refine Sp_of (by decide +kernel) (Nat.le_of_ble_eq_true rfl) ?_
  show AW none MX12_above 0 0 0 0 [.int (nI 7)] [] h _
  refine k_iload_n eX12_above_0 rfl ?_
  refine k_if_neN 8 eX12_above_1 (by decide) (by omega) (fun c_1 => ?_) (fun c_1 => by exfalso; omega)
  refine k_iload_n eX12_above_8 rfl ?_
  refine k_iconst (v := nI 3) eX12_above_9 (by decide) ?_
  refine k_icmp_neN 17 eX12_above_10 (by decide) (by omega) (by omega) (fun c_10 => ?_) (fun c_10 => by exfalso; omega)
  refine k_iload_n eX12_above_17 rfl ?_
  refine k_iconst (v := nI 5) eX12_above_18 (by decide) ?_
  refine k_icmp_neN 26 eX12_above_19 (by decide) (by omega) (by omega) (fun c_19 => ?_) (fun c_19 => by exfalso; omega)
  refine k_iload_n eX12_above_26 rfl ?_
  refine k_bipush (v := nI 7) eX12_above_27 (by decide) ?_
  refine k_icmp_neN 36 eX12_above_29 (by decide) (by omega) (by omega) (fun c_29 => by exfalso; omega) (fun c_29 => ?_)
  refine k_iconst (v := nI 3) eX12_above_32 (by decide) ?_
  refine k_goto 37 eX12_above_33 (by decide) ?_
  refine k_ireturn eX12_above_37 rfl rfl ?_
  exact ⟨rfl, rfl⟩
set_option maxHeartbeats 400000 in
theorem pX12_aboveM {h : k_H} : Sp 0 0 0 MX12_above [.int ((-1))] h (Rt (some (.int (nI 0))) (h)) := by
  refine Sp_of (by decide +kernel) (Nat.le_of_ble_eq_true rfl) ?_
  show AW none MX12_above 0 0 0 0 [.int ((-1))] [] h _
  refine k_iload_n eX12_above_0 rfl ?_
  refine k_if_ne 8 eX12_above_1 (by decide) (fun c_1 => ?_) (fun c_1 => by exfalso; revert c_1; decide)
  refine k_iload_n eX12_above_8 rfl ?_
  refine k_iconst (v := nI 3) eX12_above_9 (by decide) ?_
  refine k_icmp_ne 17 eX12_above_10 (by decide) (fun c_10 => ?_) (fun c_10 => by exfalso; revert c_10; decide)
  refine k_iload_n eX12_above_17 rfl ?_
  refine k_iconst (v := nI 5) eX12_above_18 (by decide) ?_
  refine k_icmp_ne 26 eX12_above_19 (by decide) (fun c_19 => ?_) (fun c_19 => by exfalso; revert c_19; decide)
  refine k_iload_n eX12_above_26 rfl ?_
  refine k_bipush (v := nI 7) eX12_above_27 (by decide) ?_
  refine k_icmp_ne 36 eX12_above_29 (by decide) (fun c_29 => ?_) (fun c_29 => by exfalso; revert c_29; decide)
  refine k_iconst (v := nI 0) eX12_above_36 (by decide) ?_
  refine k_ireturn eX12_above_37 rfl rfl ?_
  exact ⟨rfl, rfl⟩
/-- one act that began, a list of them, as the reference keeps them -/
def mtr1 (S : k_S) (n b : Nat) : k_S := si (sa S 73 (va_up (S.2.1 73) n (nI b))) 2629 (nI (n + 1))
def mtr : k_S → Nat → List Nat → k_S
  | S, _, [] => S
  | S, n, b :: r => mtr (mtr1 S n b) (n + 1) r
theorem mtr_app : ∀ (l1 : List Nat) (S : k_S) (n : Nat) (l2 : List Nat), mtr S n (l1 ++ l2) = mtr (mtr S n l1) (n + l1.length) l2
  | [], S, n, l2 => rfl
  | b :: r, S, n, l2 => by
    show mtr (mtr1 S n b) (n + 1) (r ++ l2) = mtr (mtr (mtr1 S n b) (n + 1) r) (n + (r.length + 1)) l2
    rw [mtr_app r, show n + 1 + r.length = n + (r.length + 1) by omega]
theorem mtr_2 : ∀ {l : List Nat} {S : k_S} {n a : Nat} {f : Nat → Int32}, a ≠ 73 → S.2.1 a = f → (mtr S n l).2.1 a = f
  | [], _, _, _, _, _, h => h
  | b :: r, S, n, a, f, ha, h => mtr_2 (l := r) ha ((if_neg ha).trans h)
theorem mtr_1 : ∀ {l : List Nat} {S : k_S} {n k : Nat} {v : Int32}, k ≠ 2629 → S.1 k = v → (mtr S n l).1 k = v
  | [], _, _, _, _, _, h => h
  | b :: r, S, n, k, v, hk, h => mtr_1 (l := r) hk ((if_neg hk).trans h)
theorem mtr_R : ∀ {l : List Nat} {S : k_S} {n : Nat}, S.1 2629 = nI n → (mtr S n l).1 2629 = nI (n + l.length)
  | [], _, _, h => h
  | b :: r, S, n, h => by
    have q := mtr_R (l := r) (S := mtr1 S n b) (n := n + 1) rfl
    rw [show n + (b :: r).length = n + 1 + r.length by simp; omega]
    exact q
set_option maxHeartbeats 400000 in
theorem pX12_runs {S : k_S} {n : Nat} (hran : S.1 2629 = nI n) (hn : n < 24) (b : Nat) : Sp 0 0 0 MX12_runs [.ref 52, .int (nI b)] (hp S) (Rt (none) (hp (mtr1 S n b))) := by
  refine Sp_of (by decide +kernel) (Nat.le_of_ble_eq_true rfl) ?_
  show AW none MX12_runs 0 0 0 0 [.ref 52, .int (nI b)] [] (hp S) _
  refine k_aload_n eX12_runs_0 rfl ?_
  refine GX12_305 eX12_runs_1 rfl ?_
  refine k_topi (nI n) hran ?_
  refine k_bipush (v := nI 24) eX12_runs_4 (by decide) ?_
  refine k_icmp_geN 19 eX12_runs_6 (by decide) (by omega) (by omega) (fun c_6 => by exfalso; omega) (fun c_6 => ?_)
  refine k_aload_n eX12_runs_9 rfl ?_
  refine GX12_77 eX12_runs_10 rfl ?_
  refine k_aload_n eX12_runs_13 rfl ?_
  refine GX12_305 eX12_runs_14 rfl ?_
  refine k_topi (nI n) hran ?_
  refine k_iload_n eX12_runs_17 rfl ?_
  refine k_iastN (j := n) eX12_runs_18 (ar73 _) (by omega) (Nat.le_of_ble_eq_true rfl) (as73 _ _) ?_
  refine k_aload_n eX12_runs_19 rfl ?_
  refine k_dup eX12_runs_20 rfl ?_
  refine GX12_305 eX12_runs_21 rfl ?_
  refine k_topi (nI n) hran ?_
  refine k_iconst (v := nI 1) eX12_runs_24 (by decide) ?_
  refine k_iaddN eX12_runs_25 ?_
  refine PX12_305 eX12_runs_26 rfl ?_
  refine k_return eX12_runs_29 rfl ?_
  exact ⟨rfl, rfl⟩
set_option maxHeartbeats 400000 in
theorem pX12_worksIn_0_0 {S : k_S} {B : Nat → Int32} {n p : Nat} {nb : Int32} (hac : S.1 2647 = nI p) (hbk : S.2.1 72 = B) (hran : S.1 2629 = nI n) (hn : n + 1 ≤ 24) (hpp : p < 50) (hB : B p = nI 0) (x : Int32) (hnb : nI p = nb) : Sp 1 0 0 MX12_worksIn [.ref 52, .int (nI 0), .int (x)] (hp S) (Rt (some (.int ((x + nb)))) (hp (mtr S n [1]))) := by
  refine Sp_of (by decide +kernel) (Nat.le_of_ble_eq_true rfl) ?_
  show AW none MX12_worksIn 1 0 0 0 [.ref 52, .int (nI 0), .int (x)] [] (hp S) _
  refine k_iload_n eX12_worksIn_0 rfl ?_
  refine k_iconst (v := nI 1) eX12_worksIn_1 (by decide) ?_
  refine k_icmp_neN 23 eX12_worksIn_2 (by decide) (by omega) (by omega) (fun c_2 => ?_) (fun c_2 => by exfalso; omega)
  refine k_iload_n eX12_worksIn_23 rfl ?_
  refine k_iconst (v := nI 3) eX12_worksIn_24 (by decide) ?_
  refine k_icmp_neN 46 eX12_worksIn_25 (by decide) (by omega) (by omega) (fun c_25 => ?_) (fun c_25 => by exfalso; omega)
  refine k_iload_n eX12_worksIn_46 rfl ?_
  refine k_bipush (v := nI 6) eX12_worksIn_47 (by decide) ?_
  refine k_icmp_neN 70 eX12_worksIn_49 (by decide) (by omega) (by omega) (fun c_49 => ?_) (fun c_49 => by exfalso; omega)
  refine k_iload_n eX12_worksIn_70 rfl ?_
  refine k_if_leN 84 eX12_worksIn_71 (by decide) (by omega) (fun c_71 => ?_) (fun c_71 => by exfalso; omega)
  refine k_aload_n eX12_worksIn_84 rfl ?_
  refine k_iconst (v := nI 1) eX12_worksIn_85 (by decide) ?_
  refine cV0 (M' := MX12_runs) eX12_worksIn_86 mX12_308 wX12_runs vX12_runs ⟨_, _, _, rfl, rfl, rfl⟩ rfl (pX12_runs (S := S) (n := n) hran (by omega) 1) (by decide) (Nat.le_of_ble_eq_true rfl) ?_
  
  refine k_iload_n eX12_worksIn_89 rfl ?_
  refine k_aload_n eX12_worksIn_90 rfl ?_
  refine GX12_317 eX12_worksIn_91 rfl ?_
  refine k_topi (nI p) (show ((mtr S n [1])).1 2647 = nI p from mtr_1 (by decide) hac) ?_
  refine k_topi (nb) hnb ?_
  refine k_iadd eX12_worksIn_94 ?_
  refine k_ireturn eX12_worksIn_95 rfl rfl ?_
  exact ⟨rfl, rfl⟩
set_option maxHeartbeats 400000 in
theorem pX12_restsIn_0_0 {S : k_S} {B : Nat → Int32} {n p : Nat} {nb : Int32} (hac : S.1 2647 = nI p) (hbk : S.2.1 72 = B) (hran : S.1 2629 = nI n) (hn : n + 2 ≤ 24) (hpp : p < 50) (hB : B p = nI 0) (x : Int32) (hnb : nI p = nb) : Sp 2 0 0 MX12_restsIn [.ref 52, .int (nI 0), .int (x)] (hp S) (Rt (some (.int (((x + nb) * nI 2)))) (hp (mtr S n [10, 1]))) := by
  refine Sp_of (by decide +kernel) (Nat.le_of_ble_eq_true rfl) ?_
  show AW none MX12_restsIn 2 0 0 0 [.ref 52, .int (nI 0), .int (x), .null] [] (hp S) _
  refine k_iload_n eX12_restsIn_0 rfl ?_
  refine k_iconst (v := nI 2) eX12_restsIn_1 (by decide) ?_
  refine k_icmp_neN 22 eX12_restsIn_2 (by decide) (by omega) (by omega) (fun c_2 => ?_) (fun c_2 => by exfalso; omega)
  refine k_iload_n eX12_restsIn_22 rfl ?_
  refine k_bipush (v := nI 7) eX12_restsIn_23 (by decide) ?_
  refine k_icmp_neN 61 eX12_restsIn_25 (by decide) (by omega) (by omega) (fun c_25 => ?_) (fun c_25 => by exfalso; omega)
  refine k_iload_n eX12_restsIn_61 rfl ?_
  refine k_if_leN 75 eX12_restsIn_62 (by decide) (by omega) (fun c_62 => ?_) (fun c_62 => by exfalso; omega)
  refine k_aload_n eX12_restsIn_75 rfl ?_
  refine k_bipush (v := nI 10) eX12_restsIn_76 (by decide) ?_
  refine cV0 (M' := MX12_runs) eX12_restsIn_78 mX12_308 wX12_runs vX12_runs ⟨_, _, _, rfl, rfl, rfl⟩ rfl (pX12_runs (S := S) (n := n) hran (by omega) 10) (by decide) (Nat.le_of_ble_eq_true rfl) ?_
  
  refine k_aload_n eX12_restsIn_81 rfl ?_
  refine k_aload_n eX12_restsIn_82 rfl ?_
  refine GX12_74 eX12_restsIn_83 rfl ?_
  refine k_aload_n eX12_restsIn_86 rfl ?_
  refine GX12_317 eX12_restsIn_87 rfl ?_
  refine k_topi (nI p) (show ((mtr S n [10])).1 2647 = nI p from mtr_1 (by decide) hac) ?_
  refine k_ialdN (j := p) eX12_restsIn_90 (ar72 _) (by omega) (Nat.le_of_ble_eq_true rfl) ?_
  refine k_topi (nI 0) ((congrFun (show (mtr S n [10]).2.1 72 = B from mtr_2 (by decide) hbk) p).trans hB) ?_
  refine k_iload_n eX12_restsIn_91 rfl ?_
  refine cV1 (M' := MX12_worksIn) eX12_restsIn_92 mX12_314 wX12_worksIn vX12_worksIn ⟨_, _, _, rfl, rfl, rfl⟩ rfl (pX12_worksIn_0_0 (S := (mtr S n [10])) (n := (n + 1)) (p := p) (nb := nb) (mtr_1 (by decide) hac) (mtr_2 (by decide) hbk) (mtr_R hran) (by omega) hpp hB (x) hnb) (by decide) (Nat.le_of_ble_eq_true rfl) ?_
  refine k_heap (h2 := hp (mtr S n [10, 1])) (congrArg hp (mtr_app [10] S n [1]).symm) ?_
  refine k_iconst (v := nI 2) eX12_restsIn_95 (by decide) ?_
  refine k_imul eX12_restsIn_96 ?_
  refine k_ireturn eX12_restsIn_97 rfl rfl ?_
  exact ⟨rfl, rfl⟩
set_option maxHeartbeats 400000 in
theorem pX12_countsIn_0_0 {S : k_S} {B : Nat → Int32} {n p : Nat} {nb : Int32} (hac : S.1 2647 = nI p) (hbk : S.2.1 72 = B) (hran : S.1 2629 = nI n) (hn : n + 1 ≤ 24) (hpp : p < 50) (hB : B p = nI 0) (x : Int32) (hnb : nI p = nb) : Sp 1 0 0 MX12_countsIn [.ref 52, .int (nI 0), .int (x)] (hp S) (Rt (some (.int ((x ^^^ nb)))) (hp (mtr S n [11]))) := by
  refine Sp_of (by decide +kernel) (Nat.le_of_ble_eq_true rfl) ?_
  show AW none MX12_countsIn 1 0 0 0 [.ref 52, .int (nI 0), .int (x), .null] [] (hp S) _
  refine k_iload_n eX12_countsIn_0 rfl ?_
  refine k_iconst (v := nI 3) eX12_countsIn_1 (by decide) ?_
  refine k_icmp_neN 23 eX12_countsIn_2 (by decide) (by omega) (by omega) (fun c_2 => ?_) (fun c_2 => by exfalso; omega)
  refine k_iload_n eX12_countsIn_23 rfl ?_
  refine k_iconst (v := nI 4) eX12_countsIn_24 (by decide) ?_
  refine k_icmp_neN 61 eX12_countsIn_25 (by decide) (by omega) (by omega) (fun c_25 => ?_) (fun c_25 => by exfalso; omega)
  refine k_iload_n eX12_countsIn_61 rfl ?_
  refine k_if_leN 75 eX12_countsIn_62 (by decide) (by omega) (fun c_62 => ?_) (fun c_62 => by exfalso; omega)
  refine k_aload_n eX12_countsIn_75 rfl ?_
  refine k_bipush (v := nI 11) eX12_countsIn_76 (by decide) ?_
  refine cV0 (M' := MX12_runs) eX12_countsIn_78 mX12_308 wX12_runs vX12_runs ⟨_, _, _, rfl, rfl, rfl⟩ rfl (pX12_runs (S := S) (n := n) hran (by omega) 11) (by decide) (Nat.le_of_ble_eq_true rfl) ?_
  
  refine k_iload_n eX12_countsIn_81 rfl ?_
  refine k_aload_n eX12_countsIn_82 rfl ?_
  refine GX12_317 eX12_countsIn_83 rfl ?_
  refine k_topi (nI p) (show ((mtr S n [11])).1 2647 = nI p from mtr_1 (by decide) hac) ?_
  refine k_topi (nb) hnb ?_
  refine k_ixor eX12_countsIn_86 ?_
  refine k_ireturn eX12_countsIn_87 rfl rfl ?_
  exact ⟨rfl, rfl⟩
set_option maxHeartbeats 400000 in
theorem pX12_tells_0_0 {S : k_S} {B : Nat → Int32} {n p : Nat} {nb : Int32} (hac : S.1 2647 = nI p) (hbk : S.2.1 72 = B) (hran : S.1 2629 = nI n) (hn : n + 4 ≤ 24) (hpp : p < 50) (hB : B p = nI 0) (x : Int32) (hnb : nI p = nb) : Sp 3 0 0 MX12_tells [.ref 52, .int (nI 0), .int (x)] (hp S) (Rt (some (.int ((((x + nb) * nI 2) - ((nI 1) ^^^ nb))))) (hp (mtr S n [2, 10, 1, 11]))) := by
  refine Sp_of (by decide +kernel) (Nat.le_of_ble_eq_true rfl) ?_
  show AW none MX12_tells 3 0 0 0 [.ref 52, .int (nI 0), .int (x), .null] [] (hp S) _
  refine k_iload_n eX12_tells_0 rfl ?_
  refine k_iconst (v := nI 5) eX12_tells_1 (by decide) ?_
  refine k_icmp_neN 23 eX12_tells_2 (by decide) (by omega) (by omega) (fun c_2 => ?_) (fun c_2 => by exfalso; omega)
  refine k_iload_n eX12_tells_23 rfl ?_
  refine k_bipush (v := nI 7) eX12_tells_24 (by decide) ?_
  refine k_icmp_neN 47 eX12_tells_26 (by decide) (by omega) (by omega) (fun c_26 => ?_) (fun c_26 => by exfalso; omega)
  refine k_iload_n eX12_tells_47 rfl ?_
  refine k_if_leN 61 eX12_tells_48 (by decide) (by omega) (fun c_48 => ?_) (fun c_48 => by exfalso; omega)
  refine k_aload_n eX12_tells_61 rfl ?_
  refine k_iconst (v := nI 2) eX12_tells_62 (by decide) ?_
  refine cV0 (M' := MX12_runs) eX12_tells_63 mX12_308 wX12_runs vX12_runs ⟨_, _, _, rfl, rfl, rfl⟩ rfl (pX12_runs (S := S) (n := n) hran (by omega) 2) (by decide) (Nat.le_of_ble_eq_true rfl) ?_
  
  refine k_aload_n eX12_tells_66 rfl ?_
  refine k_aload_n eX12_tells_67 rfl ?_
  refine GX12_74 eX12_tells_68 rfl ?_
  refine k_aload_n eX12_tells_71 rfl ?_
  refine GX12_317 eX12_tells_72 rfl ?_
  refine k_topi (nI p) (show ((mtr S n [2])).1 2647 = nI p from mtr_1 (by decide) hac) ?_
  refine k_ialdN (j := p) eX12_tells_75 (ar72 _) (by omega) (Nat.le_of_ble_eq_true rfl) ?_
  refine k_topi (nI 0) ((congrFun (show (mtr S n [2]).2.1 72 = B from mtr_2 (by decide) hbk) p).trans hB) ?_
  refine k_iload_n eX12_tells_76 rfl ?_
  refine cV1 (M' := MX12_restsIn) eX12_tells_77 mX12_320 wX12_restsIn vX12_restsIn ⟨_, _, _, rfl, rfl, rfl⟩ rfl (pX12_restsIn_0_0 (S := (mtr S n [2])) (n := (n + 1)) (p := p) (nb := nb) (mtr_1 (by decide) hac) (mtr_2 (by decide) hbk) (mtr_R hran) (by omega) hpp hB (x) hnb) (by decide) (Nat.le_of_ble_eq_true rfl) ?_
  refine k_heap (h2 := hp (mtr S n [2, 10, 1])) (congrArg hp (mtr_app [2] S n [10, 1]).symm) ?_
  refine k_istore_n (L2 := [_, _, _, _]) eX12_tells_80 (Nat.le_of_ble_eq_true rfl) rfl ?_
  refine k_iload_n eX12_tells_81 rfl ?_
  refine k_aload_n eX12_tells_82 rfl ?_
  refine k_aload_n eX12_tells_83 rfl ?_
  refine GX12_74 eX12_tells_84 rfl ?_
  refine k_aload_n eX12_tells_87 rfl ?_
  refine GX12_317 eX12_tells_88 rfl ?_
  refine k_topi (nI p) (show ((mtr S n [2, 10, 1])).1 2647 = nI p from mtr_1 (by decide) hac) ?_
  refine k_ialdN (j := p) eX12_tells_91 (ar72 _) (by omega) (Nat.le_of_ble_eq_true rfl) ?_
  refine k_topi (nI 0) ((congrFun (show (mtr S n [2, 10, 1]).2.1 72 = B from mtr_2 (by decide) hbk) p).trans hB) ?_
  refine k_iconst (v := nI 1) eX12_tells_92 (by decide) ?_
  refine cV1 (M' := MX12_countsIn) eX12_tells_93 mX12_323 wX12_countsIn vX12_countsIn ⟨_, _, _, rfl, rfl, rfl⟩ rfl (pX12_countsIn_0_0 (S := (mtr S n [2, 10, 1])) (n := (n + 3)) (p := p) (nb := nb) (mtr_1 (by decide) hac) (mtr_2 (by decide) hbk) (mtr_R hran) (by omega) hpp hB (nI 1) hnb) (by decide) (Nat.le_of_ble_eq_true rfl) ?_
  refine k_heap (h2 := hp (mtr S n [2, 10, 1, 11])) (congrArg hp (mtr_app [2, 10, 1] S n [11]).symm) ?_
  refine k_isub eX12_tells_96 ?_
  refine k_ireturn eX12_tells_97 rfl rfl ?_
  exact ⟨rfl, rfl⟩
set_option maxHeartbeats 400000 in
theorem pX12_worksIn_1_0 {S : k_S} {B : Nat → Int32} {n p : Nat} {nb : Int32} (hac : S.1 2647 = nI p) (hbk : S.2.1 72 = B) (hran : S.1 2629 = nI n) (hn : n + 1 ≤ 24) (hpp : p < 50) (hB : B p = nI 1) (x : Int32) (hnb : nI p = nb) : Sp 1 0 0 MX12_worksIn [.ref 52, .int (nI 0), .int (x)] (hp S) (Rt (some (.int ((x + nb)))) (hp (mtr S n [1]))) := by
  refine Sp_of (by decide +kernel) (Nat.le_of_ble_eq_true rfl) ?_
  show AW none MX12_worksIn 1 0 0 0 [.ref 52, .int (nI 0), .int (x)] [] (hp S) _
  refine k_iload_n eX12_worksIn_0 rfl ?_
  refine k_iconst (v := nI 1) eX12_worksIn_1 (by decide) ?_
  refine k_icmp_neN 23 eX12_worksIn_2 (by decide) (by omega) (by omega) (fun c_2 => ?_) (fun c_2 => by exfalso; omega)
  refine k_iload_n eX12_worksIn_23 rfl ?_
  refine k_iconst (v := nI 3) eX12_worksIn_24 (by decide) ?_
  refine k_icmp_neN 46 eX12_worksIn_25 (by decide) (by omega) (by omega) (fun c_25 => ?_) (fun c_25 => by exfalso; omega)
  refine k_iload_n eX12_worksIn_46 rfl ?_
  refine k_bipush (v := nI 6) eX12_worksIn_47 (by decide) ?_
  refine k_icmp_neN 70 eX12_worksIn_49 (by decide) (by omega) (by omega) (fun c_49 => ?_) (fun c_49 => by exfalso; omega)
  refine k_iload_n eX12_worksIn_70 rfl ?_
  refine k_if_leN 84 eX12_worksIn_71 (by decide) (by omega) (fun c_71 => ?_) (fun c_71 => by exfalso; omega)
  refine k_aload_n eX12_worksIn_84 rfl ?_
  refine k_iconst (v := nI 1) eX12_worksIn_85 (by decide) ?_
  refine cV0 (M' := MX12_runs) eX12_worksIn_86 mX12_308 wX12_runs vX12_runs ⟨_, _, _, rfl, rfl, rfl⟩ rfl (pX12_runs (S := S) (n := n) hran (by omega) 1) (by decide) (Nat.le_of_ble_eq_true rfl) ?_
  
  refine k_iload_n eX12_worksIn_89 rfl ?_
  refine k_aload_n eX12_worksIn_90 rfl ?_
  refine GX12_317 eX12_worksIn_91 rfl ?_
  refine k_topi (nI p) (show ((mtr S n [1])).1 2647 = nI p from mtr_1 (by decide) hac) ?_
  refine k_topi (nb) hnb ?_
  refine k_iadd eX12_worksIn_94 ?_
  refine k_ireturn eX12_worksIn_95 rfl rfl ?_
  exact ⟨rfl, rfl⟩
set_option maxHeartbeats 400000 in
theorem pX12_worksIn_1_1 {S : k_S} {B : Nat → Int32} {n p : Nat} {nb : Int32} (hac : S.1 2647 = nI p) (hbk : S.2.1 72 = B) (hran : S.1 2629 = nI n) (hn : n + 2 ≤ 24) (hpp : p < 50) (hB : B p = nI 1) (x : Int32) (hnb : nI p = nb) : Sp 2 0 0 MX12_worksIn [.ref 52, .int (nI 1), .int (x)] (hp S) (Rt (some (.int (((x + nb) + nI 3)))) (hp (mtr S n [20, 1]))) := by
  refine Sp_of (by decide +kernel) (Nat.le_of_ble_eq_true rfl) ?_
  show AW none MX12_worksIn 2 0 0 0 [.ref 52, .int (nI 1), .int (x)] [] (hp S) _
  refine k_iload_n eX12_worksIn_0 rfl ?_
  refine k_iconst (v := nI 1) eX12_worksIn_1 (by decide) ?_
  refine k_icmp_neN 23 eX12_worksIn_2 (by decide) (by omega) (by omega) (fun c_2 => by exfalso; omega) (fun c_2 => ?_)
  refine k_aload_n eX12_worksIn_5 rfl ?_
  refine k_bipush (v := nI 20) eX12_worksIn_6 (by decide) ?_
  refine cV0 (M' := MX12_runs) eX12_worksIn_8 mX12_308 wX12_runs vX12_runs ⟨_, _, _, rfl, rfl, rfl⟩ rfl (pX12_runs (S := S) (n := n) hran (by omega) 20) (by decide) (Nat.le_of_ble_eq_true rfl) ?_
  
  refine k_aload_n eX12_worksIn_11 rfl ?_
  refine k_iload_n eX12_worksIn_12 rfl ?_
  refine cS1 (M' := MX12_above) eX12_worksIn_13 mX12_311 wX12_above sX12_above rfl (pX12_above1) (by decide) (Nat.le_of_ble_eq_true rfl) ?_
  refine k_iload_n eX12_worksIn_16 rfl ?_
  refine cV1 (M' := MX12_worksIn) eX12_worksIn_17 mX12_314 wX12_worksIn vX12_worksIn ⟨_, _, _, rfl, rfl, rfl⟩ rfl (pX12_worksIn_1_0 (S := (mtr S n [20])) (n := (n + 1)) (p := p) (nb := nb) (mtr_1 (by decide) hac) (mtr_2 (by decide) hbk) (mtr_R hran) (by omega) hpp hB (x) hnb) (by decide) (Nat.le_of_ble_eq_true rfl) ?_
  refine k_heap (h2 := hp (mtr S n [20, 1])) (congrArg hp (mtr_app [20] S n [1]).symm) ?_
  refine k_iconst (v := nI 3) eX12_worksIn_20 (by decide) ?_
  refine k_iadd eX12_worksIn_21 ?_
  refine k_ireturn eX12_worksIn_22 rfl rfl ?_
  exact ⟨rfl, rfl⟩
set_option maxHeartbeats 400000 in
theorem pX12_restsIn_1_0 {S : k_S} {B : Nat → Int32} {n p : Nat} {nb : Int32} (hac : S.1 2647 = nI p) (hbk : S.2.1 72 = B) (hran : S.1 2629 = nI n) (hn : n + 3 ≤ 24) (hpp : p < 50) (hB : B p = nI 1) (x : Int32) (hnb : nI p = nb) : Sp 3 0 0 MX12_restsIn [.ref 52, .int (nI 0), .int (x)] (hp S) (Rt (some (.int ((((x + nb) + nI 3) * nI 2)))) (hp (mtr S n [10, 20, 1]))) := by
  refine Sp_of (by decide +kernel) (Nat.le_of_ble_eq_true rfl) ?_
  show AW none MX12_restsIn 3 0 0 0 [.ref 52, .int (nI 0), .int (x), .null] [] (hp S) _
  refine k_iload_n eX12_restsIn_0 rfl ?_
  refine k_iconst (v := nI 2) eX12_restsIn_1 (by decide) ?_
  refine k_icmp_neN 22 eX12_restsIn_2 (by decide) (by omega) (by omega) (fun c_2 => ?_) (fun c_2 => by exfalso; omega)
  refine k_iload_n eX12_restsIn_22 rfl ?_
  refine k_bipush (v := nI 7) eX12_restsIn_23 (by decide) ?_
  refine k_icmp_neN 61 eX12_restsIn_25 (by decide) (by omega) (by omega) (fun c_25 => ?_) (fun c_25 => by exfalso; omega)
  refine k_iload_n eX12_restsIn_61 rfl ?_
  refine k_if_leN 75 eX12_restsIn_62 (by decide) (by omega) (fun c_62 => ?_) (fun c_62 => by exfalso; omega)
  refine k_aload_n eX12_restsIn_75 rfl ?_
  refine k_bipush (v := nI 10) eX12_restsIn_76 (by decide) ?_
  refine cV0 (M' := MX12_runs) eX12_restsIn_78 mX12_308 wX12_runs vX12_runs ⟨_, _, _, rfl, rfl, rfl⟩ rfl (pX12_runs (S := S) (n := n) hran (by omega) 10) (by decide) (Nat.le_of_ble_eq_true rfl) ?_
  
  refine k_aload_n eX12_restsIn_81 rfl ?_
  refine k_aload_n eX12_restsIn_82 rfl ?_
  refine GX12_74 eX12_restsIn_83 rfl ?_
  refine k_aload_n eX12_restsIn_86 rfl ?_
  refine GX12_317 eX12_restsIn_87 rfl ?_
  refine k_topi (nI p) (show ((mtr S n [10])).1 2647 = nI p from mtr_1 (by decide) hac) ?_
  refine k_ialdN (j := p) eX12_restsIn_90 (ar72 _) (by omega) (Nat.le_of_ble_eq_true rfl) ?_
  refine k_topi (nI 1) ((congrFun (show (mtr S n [10]).2.1 72 = B from mtr_2 (by decide) hbk) p).trans hB) ?_
  refine k_iload_n eX12_restsIn_91 rfl ?_
  refine cV1 (M' := MX12_worksIn) eX12_restsIn_92 mX12_314 wX12_worksIn vX12_worksIn ⟨_, _, _, rfl, rfl, rfl⟩ rfl (pX12_worksIn_1_1 (S := (mtr S n [10])) (n := (n + 1)) (p := p) (nb := nb) (mtr_1 (by decide) hac) (mtr_2 (by decide) hbk) (mtr_R hran) (by omega) hpp hB (x) hnb) (by decide) (Nat.le_of_ble_eq_true rfl) ?_
  refine k_heap (h2 := hp (mtr S n [10, 20, 1])) (congrArg hp (mtr_app [10] S n [20, 1]).symm) ?_
  refine k_iconst (v := nI 2) eX12_restsIn_95 (by decide) ?_
  refine k_imul eX12_restsIn_96 ?_
  refine k_ireturn eX12_restsIn_97 rfl rfl ?_
  exact ⟨rfl, rfl⟩
set_option maxHeartbeats 400000 in
theorem pX12_restsIn_1_1 {S : k_S} {B : Nat → Int32} {n p : Nat} {nb : Int32} (hac : S.1 2647 = nI p) (hbk : S.2.1 72 = B) (hran : S.1 2629 = nI n) (hn : n + 3 ≤ 24) (hpp : p < 50) (hB : B p = nI 1) (x : Int32) (hnb : nI p = nb) : Sp 4 0 0 MX12_restsIn [.ref 52, .int (nI 1), .int (x)] (hp S) (Rt (some (.int ((((x + nb) + nI 3) * nI 2)))) (hp (mtr S n [10, 20, 1]))) := by
  refine Sp_of (by decide +kernel) (Nat.le_of_ble_eq_true rfl) ?_
  show AW none MX12_restsIn 4 0 0 0 [.ref 52, .int (nI 1), .int (x), .null] [] (hp S) _
  refine k_iload_n eX12_restsIn_0 rfl ?_
  refine k_iconst (v := nI 2) eX12_restsIn_1 (by decide) ?_
  refine k_icmp_neN 22 eX12_restsIn_2 (by decide) (by omega) (by omega) (fun c_2 => ?_) (fun c_2 => by exfalso; omega)
  refine k_iload_n eX12_restsIn_22 rfl ?_
  refine k_bipush (v := nI 7) eX12_restsIn_23 (by decide) ?_
  refine k_icmp_neN 61 eX12_restsIn_25 (by decide) (by omega) (by omega) (fun c_25 => ?_) (fun c_25 => by exfalso; omega)
  refine k_iload_n eX12_restsIn_61 rfl ?_
  refine k_if_leN 75 eX12_restsIn_62 (by decide) (by omega) (fun c_62 => by exfalso; omega) (fun c_62 => ?_)
  refine k_aload_n eX12_restsIn_65 rfl ?_
  refine k_iload_n eX12_restsIn_66 rfl ?_
  refine cS1 (M' := MX12_above) eX12_restsIn_67 mX12_311 wX12_above sX12_above rfl (pX12_above1) (by decide) (Nat.le_of_ble_eq_true rfl) ?_
  refine k_iload_n eX12_restsIn_70 rfl ?_
  refine cV1 (M' := MX12_restsIn) eX12_restsIn_71 mX12_320 wX12_restsIn vX12_restsIn ⟨_, _, _, rfl, rfl, rfl⟩ rfl (pX12_restsIn_1_0 (S := S) (n := n) (p := p) (nb := nb) hac hbk hran (by omega) hpp hB (x) hnb) (by decide) (Nat.le_of_ble_eq_true rfl) ?_
  
  refine k_ireturn eX12_restsIn_74 rfl rfl ?_
  exact ⟨rfl, rfl⟩
set_option maxHeartbeats 400000 in
theorem pX12_countsIn_1_0 {S : k_S} {B : Nat → Int32} {n p : Nat} {nb : Int32} (hac : S.1 2647 = nI p) (hbk : S.2.1 72 = B) (hran : S.1 2629 = nI n) (hn : n + 1 ≤ 24) (hpp : p < 50) (hB : B p = nI 1) (x : Int32) (hnb : nI p = nb) : Sp 1 0 0 MX12_countsIn [.ref 52, .int (nI 0), .int (x)] (hp S) (Rt (some (.int ((x ^^^ nb)))) (hp (mtr S n [11]))) := by
  refine Sp_of (by decide +kernel) (Nat.le_of_ble_eq_true rfl) ?_
  show AW none MX12_countsIn 1 0 0 0 [.ref 52, .int (nI 0), .int (x), .null] [] (hp S) _
  refine k_iload_n eX12_countsIn_0 rfl ?_
  refine k_iconst (v := nI 3) eX12_countsIn_1 (by decide) ?_
  refine k_icmp_neN 23 eX12_countsIn_2 (by decide) (by omega) (by omega) (fun c_2 => ?_) (fun c_2 => by exfalso; omega)
  refine k_iload_n eX12_countsIn_23 rfl ?_
  refine k_iconst (v := nI 4) eX12_countsIn_24 (by decide) ?_
  refine k_icmp_neN 61 eX12_countsIn_25 (by decide) (by omega) (by omega) (fun c_25 => ?_) (fun c_25 => by exfalso; omega)
  refine k_iload_n eX12_countsIn_61 rfl ?_
  refine k_if_leN 75 eX12_countsIn_62 (by decide) (by omega) (fun c_62 => ?_) (fun c_62 => by exfalso; omega)
  refine k_aload_n eX12_countsIn_75 rfl ?_
  refine k_bipush (v := nI 11) eX12_countsIn_76 (by decide) ?_
  refine cV0 (M' := MX12_runs) eX12_countsIn_78 mX12_308 wX12_runs vX12_runs ⟨_, _, _, rfl, rfl, rfl⟩ rfl (pX12_runs (S := S) (n := n) hran (by omega) 11) (by decide) (Nat.le_of_ble_eq_true rfl) ?_
  
  refine k_iload_n eX12_countsIn_81 rfl ?_
  refine k_aload_n eX12_countsIn_82 rfl ?_
  refine GX12_317 eX12_countsIn_83 rfl ?_
  refine k_topi (nI p) (show ((mtr S n [11])).1 2647 = nI p from mtr_1 (by decide) hac) ?_
  refine k_topi (nb) hnb ?_
  refine k_ixor eX12_countsIn_86 ?_
  refine k_ireturn eX12_countsIn_87 rfl rfl ?_
  exact ⟨rfl, rfl⟩
set_option maxHeartbeats 400000 in
theorem pX12_countsIn_1_1 {S : k_S} {B : Nat → Int32} {n p : Nat} {nb : Int32} (hac : S.1 2647 = nI p) (hbk : S.2.1 72 = B) (hran : S.1 2629 = nI n) (hn : n + 1 ≤ 24) (hpp : p < 50) (hB : B p = nI 1) (x : Int32) (hnb : nI p = nb) : Sp 2 0 0 MX12_countsIn [.ref 52, .int (nI 1), .int (x)] (hp S) (Rt (some (.int ((x ^^^ nb)))) (hp (mtr S n [11]))) := by
  refine Sp_of (by decide +kernel) (Nat.le_of_ble_eq_true rfl) ?_
  show AW none MX12_countsIn 2 0 0 0 [.ref 52, .int (nI 1), .int (x), .null] [] (hp S) _
  refine k_iload_n eX12_countsIn_0 rfl ?_
  refine k_iconst (v := nI 3) eX12_countsIn_1 (by decide) ?_
  refine k_icmp_neN 23 eX12_countsIn_2 (by decide) (by omega) (by omega) (fun c_2 => ?_) (fun c_2 => by exfalso; omega)
  refine k_iload_n eX12_countsIn_23 rfl ?_
  refine k_iconst (v := nI 4) eX12_countsIn_24 (by decide) ?_
  refine k_icmp_neN 61 eX12_countsIn_25 (by decide) (by omega) (by omega) (fun c_25 => ?_) (fun c_25 => by exfalso; omega)
  refine k_iload_n eX12_countsIn_61 rfl ?_
  refine k_if_leN 75 eX12_countsIn_62 (by decide) (by omega) (fun c_62 => by exfalso; omega) (fun c_62 => ?_)
  refine k_aload_n eX12_countsIn_65 rfl ?_
  refine k_iload_n eX12_countsIn_66 rfl ?_
  refine cS1 (M' := MX12_above) eX12_countsIn_67 mX12_311 wX12_above sX12_above rfl (pX12_above1) (by decide) (Nat.le_of_ble_eq_true rfl) ?_
  refine k_iload_n eX12_countsIn_70 rfl ?_
  refine cV1 (M' := MX12_countsIn) eX12_countsIn_71 mX12_323 wX12_countsIn vX12_countsIn ⟨_, _, _, rfl, rfl, rfl⟩ rfl (pX12_countsIn_1_0 (S := S) (n := n) (p := p) (nb := nb) hac hbk hran (by omega) hpp hB (x) hnb) (by decide) (Nat.le_of_ble_eq_true rfl) ?_
  
  refine k_ireturn eX12_countsIn_74 rfl rfl ?_
  exact ⟨rfl, rfl⟩
set_option maxHeartbeats 400000 in
theorem pX12_tells_1_0 {S : k_S} {B : Nat → Int32} {n p : Nat} {nb : Int32} (hac : S.1 2647 = nI p) (hbk : S.2.1 72 = B) (hran : S.1 2629 = nI n) (hn : n + 5 ≤ 24) (hpp : p < 50) (hB : B p = nI 1) (x : Int32) (hnb : nI p = nb) : Sp 5 0 0 MX12_tells [.ref 52, .int (nI 0), .int (x)] (hp S) (Rt (some (.int (((((x + nb) + nI 3) * nI 2) - ((nI 1) ^^^ nb))))) (hp (mtr S n [2, 10, 20, 1, 11]))) := by
  refine Sp_of (by decide +kernel) (Nat.le_of_ble_eq_true rfl) ?_
  show AW none MX12_tells 5 0 0 0 [.ref 52, .int (nI 0), .int (x), .null] [] (hp S) _
  refine k_iload_n eX12_tells_0 rfl ?_
  refine k_iconst (v := nI 5) eX12_tells_1 (by decide) ?_
  refine k_icmp_neN 23 eX12_tells_2 (by decide) (by omega) (by omega) (fun c_2 => ?_) (fun c_2 => by exfalso; omega)
  refine k_iload_n eX12_tells_23 rfl ?_
  refine k_bipush (v := nI 7) eX12_tells_24 (by decide) ?_
  refine k_icmp_neN 47 eX12_tells_26 (by decide) (by omega) (by omega) (fun c_26 => ?_) (fun c_26 => by exfalso; omega)
  refine k_iload_n eX12_tells_47 rfl ?_
  refine k_if_leN 61 eX12_tells_48 (by decide) (by omega) (fun c_48 => ?_) (fun c_48 => by exfalso; omega)
  refine k_aload_n eX12_tells_61 rfl ?_
  refine k_iconst (v := nI 2) eX12_tells_62 (by decide) ?_
  refine cV0 (M' := MX12_runs) eX12_tells_63 mX12_308 wX12_runs vX12_runs ⟨_, _, _, rfl, rfl, rfl⟩ rfl (pX12_runs (S := S) (n := n) hran (by omega) 2) (by decide) (Nat.le_of_ble_eq_true rfl) ?_
  
  refine k_aload_n eX12_tells_66 rfl ?_
  refine k_aload_n eX12_tells_67 rfl ?_
  refine GX12_74 eX12_tells_68 rfl ?_
  refine k_aload_n eX12_tells_71 rfl ?_
  refine GX12_317 eX12_tells_72 rfl ?_
  refine k_topi (nI p) (show ((mtr S n [2])).1 2647 = nI p from mtr_1 (by decide) hac) ?_
  refine k_ialdN (j := p) eX12_tells_75 (ar72 _) (by omega) (Nat.le_of_ble_eq_true rfl) ?_
  refine k_topi (nI 1) ((congrFun (show (mtr S n [2]).2.1 72 = B from mtr_2 (by decide) hbk) p).trans hB) ?_
  refine k_iload_n eX12_tells_76 rfl ?_
  refine cV1 (M' := MX12_restsIn) eX12_tells_77 mX12_320 wX12_restsIn vX12_restsIn ⟨_, _, _, rfl, rfl, rfl⟩ rfl (pX12_restsIn_1_1 (S := (mtr S n [2])) (n := (n + 1)) (p := p) (nb := nb) (mtr_1 (by decide) hac) (mtr_2 (by decide) hbk) (mtr_R hran) (by omega) hpp hB (x) hnb) (by decide) (Nat.le_of_ble_eq_true rfl) ?_
  refine k_heap (h2 := hp (mtr S n [2, 10, 20, 1])) (congrArg hp (mtr_app [2] S n [10, 20, 1]).symm) ?_
  refine k_istore_n (L2 := [_, _, _, _]) eX12_tells_80 (Nat.le_of_ble_eq_true rfl) rfl ?_
  refine k_iload_n eX12_tells_81 rfl ?_
  refine k_aload_n eX12_tells_82 rfl ?_
  refine k_aload_n eX12_tells_83 rfl ?_
  refine GX12_74 eX12_tells_84 rfl ?_
  refine k_aload_n eX12_tells_87 rfl ?_
  refine GX12_317 eX12_tells_88 rfl ?_
  refine k_topi (nI p) (show ((mtr S n [2, 10, 20, 1])).1 2647 = nI p from mtr_1 (by decide) hac) ?_
  refine k_ialdN (j := p) eX12_tells_91 (ar72 _) (by omega) (Nat.le_of_ble_eq_true rfl) ?_
  refine k_topi (nI 1) ((congrFun (show (mtr S n [2, 10, 20, 1]).2.1 72 = B from mtr_2 (by decide) hbk) p).trans hB) ?_
  refine k_iconst (v := nI 1) eX12_tells_92 (by decide) ?_
  refine cV1 (M' := MX12_countsIn) eX12_tells_93 mX12_323 wX12_countsIn vX12_countsIn ⟨_, _, _, rfl, rfl, rfl⟩ rfl (pX12_countsIn_1_1 (S := (mtr S n [2, 10, 20, 1])) (n := (n + 4)) (p := p) (nb := nb) (mtr_1 (by decide) hac) (mtr_2 (by decide) hbk) (mtr_R hran) (by omega) hpp hB (nI 1) hnb) (by decide) (Nat.le_of_ble_eq_true rfl) ?_
  refine k_heap (h2 := hp (mtr S n [2, 10, 20, 1, 11])) (congrArg hp (mtr_app [2, 10, 20, 1] S n [11]).symm) ?_
  refine k_isub eX12_tells_96 ?_
  refine k_ireturn eX12_tells_97 rfl rfl ?_
  exact ⟨rfl, rfl⟩
set_option maxHeartbeats 400000 in
theorem pX12_tells_1_1 {S : k_S} {B : Nat → Int32} {n p : Nat} {nb : Int32} (hac : S.1 2647 = nI p) (hbk : S.2.1 72 = B) (hran : S.1 2629 = nI n) (hn : n + 5 ≤ 24) (hpp : p < 50) (hB : B p = nI 1) (x : Int32) (hnb : nI p = nb) : Sp 6 0 0 MX12_tells [.ref 52, .int (nI 1), .int (x)] (hp S) (Rt (some (.int (((((x + nb) + nI 3) * nI 2) - ((nI 1) ^^^ nb))))) (hp (mtr S n [2, 10, 20, 1, 11]))) := by
  refine Sp_of (by decide +kernel) (Nat.le_of_ble_eq_true rfl) ?_
  show AW none MX12_tells 6 0 0 0 [.ref 52, .int (nI 1), .int (x), .null] [] (hp S) _
  refine k_iload_n eX12_tells_0 rfl ?_
  refine k_iconst (v := nI 5) eX12_tells_1 (by decide) ?_
  refine k_icmp_neN 23 eX12_tells_2 (by decide) (by omega) (by omega) (fun c_2 => ?_) (fun c_2 => by exfalso; omega)
  refine k_iload_n eX12_tells_23 rfl ?_
  refine k_bipush (v := nI 7) eX12_tells_24 (by decide) ?_
  refine k_icmp_neN 47 eX12_tells_26 (by decide) (by omega) (by omega) (fun c_26 => ?_) (fun c_26 => by exfalso; omega)
  refine k_iload_n eX12_tells_47 rfl ?_
  refine k_if_leN 61 eX12_tells_48 (by decide) (by omega) (fun c_48 => by exfalso; omega) (fun c_48 => ?_)
  refine k_aload_n eX12_tells_51 rfl ?_
  refine k_iload_n eX12_tells_52 rfl ?_
  refine cS1 (M' := MX12_above) eX12_tells_53 mX12_311 wX12_above sX12_above rfl (pX12_above1) (by decide) (Nat.le_of_ble_eq_true rfl) ?_
  refine k_iload_n eX12_tells_56 rfl ?_
  refine cV1 (M' := MX12_tells) eX12_tells_57 mX12_326 wX12_tells vX12_tells ⟨_, _, _, rfl, rfl, rfl⟩ rfl (pX12_tells_1_0 (S := S) (n := n) (p := p) (nb := nb) hac hbk hran (by omega) hpp hB (x) hnb) (by decide) (Nat.le_of_ble_eq_true rfl) ?_
  
  refine k_ireturn eX12_tells_60 rfl rfl ?_
  exact ⟨rfl, rfl⟩
set_option maxHeartbeats 400000 in
theorem pX12_worksIn_2_0 {S : k_S} {B : Nat → Int32} {n p : Nat} {nb : Int32} (hac : S.1 2647 = nI p) (hbk : S.2.1 72 = B) (hran : S.1 2629 = nI n) (hn : n + 1 ≤ 24) (hpp : p < 50) (hB : B p = nI 2) (x : Int32) (hnb : nI p = nb) : Sp 1 0 0 MX12_worksIn [.ref 52, .int (nI 0), .int (x)] (hp S) (Rt (some (.int ((x + nb)))) (hp (mtr S n [1]))) := by
  refine Sp_of (by decide +kernel) (Nat.le_of_ble_eq_true rfl) ?_
  show AW none MX12_worksIn 1 0 0 0 [.ref 52, .int (nI 0), .int (x)] [] (hp S) _
  refine k_iload_n eX12_worksIn_0 rfl ?_
  refine k_iconst (v := nI 1) eX12_worksIn_1 (by decide) ?_
  refine k_icmp_neN 23 eX12_worksIn_2 (by decide) (by omega) (by omega) (fun c_2 => ?_) (fun c_2 => by exfalso; omega)
  refine k_iload_n eX12_worksIn_23 rfl ?_
  refine k_iconst (v := nI 3) eX12_worksIn_24 (by decide) ?_
  refine k_icmp_neN 46 eX12_worksIn_25 (by decide) (by omega) (by omega) (fun c_25 => ?_) (fun c_25 => by exfalso; omega)
  refine k_iload_n eX12_worksIn_46 rfl ?_
  refine k_bipush (v := nI 6) eX12_worksIn_47 (by decide) ?_
  refine k_icmp_neN 70 eX12_worksIn_49 (by decide) (by omega) (by omega) (fun c_49 => ?_) (fun c_49 => by exfalso; omega)
  refine k_iload_n eX12_worksIn_70 rfl ?_
  refine k_if_leN 84 eX12_worksIn_71 (by decide) (by omega) (fun c_71 => ?_) (fun c_71 => by exfalso; omega)
  refine k_aload_n eX12_worksIn_84 rfl ?_
  refine k_iconst (v := nI 1) eX12_worksIn_85 (by decide) ?_
  refine cV0 (M' := MX12_runs) eX12_worksIn_86 mX12_308 wX12_runs vX12_runs ⟨_, _, _, rfl, rfl, rfl⟩ rfl (pX12_runs (S := S) (n := n) hran (by omega) 1) (by decide) (Nat.le_of_ble_eq_true rfl) ?_
  
  refine k_iload_n eX12_worksIn_89 rfl ?_
  refine k_aload_n eX12_worksIn_90 rfl ?_
  refine GX12_317 eX12_worksIn_91 rfl ?_
  refine k_topi (nI p) (show ((mtr S n [1])).1 2647 = nI p from mtr_1 (by decide) hac) ?_
  refine k_topi (nb) hnb ?_
  refine k_iadd eX12_worksIn_94 ?_
  refine k_ireturn eX12_worksIn_95 rfl rfl ?_
  exact ⟨rfl, rfl⟩
set_option maxHeartbeats 400000 in
theorem pX12_worksIn_2_2 {S : k_S} {B : Nat → Int32} {n p : Nat} {nb : Int32} (hac : S.1 2647 = nI p) (hbk : S.2.1 72 = B) (hran : S.1 2629 = nI n) (hn : n + 1 ≤ 24) (hpp : p < 50) (hB : B p = nI 2) (x : Int32) (hnb : nI p = nb) : Sp 2 0 0 MX12_worksIn [.ref 52, .int (nI 2), .int (x)] (hp S) (Rt (some (.int ((x + nb)))) (hp (mtr S n [1]))) := by
  refine Sp_of (by decide +kernel) (Nat.le_of_ble_eq_true rfl) ?_
  show AW none MX12_worksIn 2 0 0 0 [.ref 52, .int (nI 2), .int (x)] [] (hp S) _
  refine k_iload_n eX12_worksIn_0 rfl ?_
  refine k_iconst (v := nI 1) eX12_worksIn_1 (by decide) ?_
  refine k_icmp_neN 23 eX12_worksIn_2 (by decide) (by omega) (by omega) (fun c_2 => ?_) (fun c_2 => by exfalso; omega)
  refine k_iload_n eX12_worksIn_23 rfl ?_
  refine k_iconst (v := nI 3) eX12_worksIn_24 (by decide) ?_
  refine k_icmp_neN 46 eX12_worksIn_25 (by decide) (by omega) (by omega) (fun c_25 => ?_) (fun c_25 => by exfalso; omega)
  refine k_iload_n eX12_worksIn_46 rfl ?_
  refine k_bipush (v := nI 6) eX12_worksIn_47 (by decide) ?_
  refine k_icmp_neN 70 eX12_worksIn_49 (by decide) (by omega) (by omega) (fun c_49 => ?_) (fun c_49 => by exfalso; omega)
  refine k_iload_n eX12_worksIn_70 rfl ?_
  refine k_if_leN 84 eX12_worksIn_71 (by decide) (by omega) (fun c_71 => by exfalso; omega) (fun c_71 => ?_)
  refine k_aload_n eX12_worksIn_74 rfl ?_
  refine k_iload_n eX12_worksIn_75 rfl ?_
  refine cS1 (M' := MX12_above) eX12_worksIn_76 mX12_311 wX12_above sX12_above rfl (pX12_above2) (by decide) (Nat.le_of_ble_eq_true rfl) ?_
  refine k_iload_n eX12_worksIn_79 rfl ?_
  refine cV1 (M' := MX12_worksIn) eX12_worksIn_80 mX12_314 wX12_worksIn vX12_worksIn ⟨_, _, _, rfl, rfl, rfl⟩ rfl (pX12_worksIn_2_0 (S := S) (n := n) (p := p) (nb := nb) hac hbk hran (by omega) hpp hB (x) hnb) (by decide) (Nat.le_of_ble_eq_true rfl) ?_
  
  refine k_ireturn eX12_worksIn_83 rfl rfl ?_
  exact ⟨rfl, rfl⟩
set_option maxHeartbeats 400000 in
theorem pX12_restsIn_2_0 {S : k_S} {B : Nat → Int32} {n p : Nat} {nb : Int32} (hac : S.1 2647 = nI p) (hbk : S.2.1 72 = B) (hran : S.1 2629 = nI n) (hn : n + 2 ≤ 24) (hpp : p < 50) (hB : B p = nI 2) (x : Int32) (hnb : nI p = nb) : Sp 3 0 0 MX12_restsIn [.ref 52, .int (nI 0), .int (x)] (hp S) (Rt (some (.int (((x + nb) * nI 2)))) (hp (mtr S n [10, 1]))) := by
  refine Sp_of (by decide +kernel) (Nat.le_of_ble_eq_true rfl) ?_
  show AW none MX12_restsIn 3 0 0 0 [.ref 52, .int (nI 0), .int (x), .null] [] (hp S) _
  refine k_iload_n eX12_restsIn_0 rfl ?_
  refine k_iconst (v := nI 2) eX12_restsIn_1 (by decide) ?_
  refine k_icmp_neN 22 eX12_restsIn_2 (by decide) (by omega) (by omega) (fun c_2 => ?_) (fun c_2 => by exfalso; omega)
  refine k_iload_n eX12_restsIn_22 rfl ?_
  refine k_bipush (v := nI 7) eX12_restsIn_23 (by decide) ?_
  refine k_icmp_neN 61 eX12_restsIn_25 (by decide) (by omega) (by omega) (fun c_25 => ?_) (fun c_25 => by exfalso; omega)
  refine k_iload_n eX12_restsIn_61 rfl ?_
  refine k_if_leN 75 eX12_restsIn_62 (by decide) (by omega) (fun c_62 => ?_) (fun c_62 => by exfalso; omega)
  refine k_aload_n eX12_restsIn_75 rfl ?_
  refine k_bipush (v := nI 10) eX12_restsIn_76 (by decide) ?_
  refine cV0 (M' := MX12_runs) eX12_restsIn_78 mX12_308 wX12_runs vX12_runs ⟨_, _, _, rfl, rfl, rfl⟩ rfl (pX12_runs (S := S) (n := n) hran (by omega) 10) (by decide) (Nat.le_of_ble_eq_true rfl) ?_
  
  refine k_aload_n eX12_restsIn_81 rfl ?_
  refine k_aload_n eX12_restsIn_82 rfl ?_
  refine GX12_74 eX12_restsIn_83 rfl ?_
  refine k_aload_n eX12_restsIn_86 rfl ?_
  refine GX12_317 eX12_restsIn_87 rfl ?_
  refine k_topi (nI p) (show ((mtr S n [10])).1 2647 = nI p from mtr_1 (by decide) hac) ?_
  refine k_ialdN (j := p) eX12_restsIn_90 (ar72 _) (by omega) (Nat.le_of_ble_eq_true rfl) ?_
  refine k_topi (nI 2) ((congrFun (show (mtr S n [10]).2.1 72 = B from mtr_2 (by decide) hbk) p).trans hB) ?_
  refine k_iload_n eX12_restsIn_91 rfl ?_
  refine cV1 (M' := MX12_worksIn) eX12_restsIn_92 mX12_314 wX12_worksIn vX12_worksIn ⟨_, _, _, rfl, rfl, rfl⟩ rfl (pX12_worksIn_2_2 (S := (mtr S n [10])) (n := (n + 1)) (p := p) (nb := nb) (mtr_1 (by decide) hac) (mtr_2 (by decide) hbk) (mtr_R hran) (by omega) hpp hB (x) hnb) (by decide) (Nat.le_of_ble_eq_true rfl) ?_
  refine k_heap (h2 := hp (mtr S n [10, 1])) (congrArg hp (mtr_app [10] S n [1]).symm) ?_
  refine k_iconst (v := nI 2) eX12_restsIn_95 (by decide) ?_
  refine k_imul eX12_restsIn_96 ?_
  refine k_ireturn eX12_restsIn_97 rfl rfl ?_
  exact ⟨rfl, rfl⟩
set_option maxHeartbeats 400000 in
theorem pX12_restsIn_2_2 {S : k_S} {B : Nat → Int32} {n p : Nat} {nb : Int32} (hac : S.1 2647 = nI p) (hbk : S.2.1 72 = B) (hran : S.1 2629 = nI n) (hn : n + 3 ≤ 24) (hpp : p < 50) (hB : B p = nI 2) (x : Int32) (hnb : nI p = nb) : Sp 4 0 0 MX12_restsIn [.ref 52, .int (nI 2), .int (x)] (hp S) (Rt (some (.int ((-(((x + nb) * nI 2)))))) (hp (mtr S n [30, 10, 1]))) := by
  refine Sp_of (by decide +kernel) (Nat.le_of_ble_eq_true rfl) ?_
  show AW none MX12_restsIn 4 0 0 0 [.ref 52, .int (nI 2), .int (x), .null] [] (hp S) _
  refine k_iload_n eX12_restsIn_0 rfl ?_
  refine k_iconst (v := nI 2) eX12_restsIn_1 (by decide) ?_
  refine k_icmp_neN 22 eX12_restsIn_2 (by decide) (by omega) (by omega) (fun c_2 => by exfalso; omega) (fun c_2 => ?_)
  refine k_aload_n eX12_restsIn_5 rfl ?_
  refine k_bipush (v := nI 30) eX12_restsIn_6 (by decide) ?_
  refine cV0 (M' := MX12_runs) eX12_restsIn_8 mX12_308 wX12_runs vX12_runs ⟨_, _, _, rfl, rfl, rfl⟩ rfl (pX12_runs (S := S) (n := n) hran (by omega) 30) (by decide) (Nat.le_of_ble_eq_true rfl) ?_
  
  refine k_aload_n eX12_restsIn_11 rfl ?_
  refine k_iload_n eX12_restsIn_12 rfl ?_
  refine cS1 (M' := MX12_above) eX12_restsIn_13 mX12_311 wX12_above sX12_above rfl (pX12_above2) (by decide) (Nat.le_of_ble_eq_true rfl) ?_
  refine k_iload_n eX12_restsIn_16 rfl ?_
  refine cV1 (M' := MX12_restsIn) eX12_restsIn_17 mX12_320 wX12_restsIn vX12_restsIn ⟨_, _, _, rfl, rfl, rfl⟩ rfl (pX12_restsIn_2_0 (S := (mtr S n [30])) (n := (n + 1)) (p := p) (nb := nb) (mtr_1 (by decide) hac) (mtr_2 (by decide) hbk) (mtr_R hran) (by omega) hpp hB (x) hnb) (by decide) (Nat.le_of_ble_eq_true rfl) ?_
  refine k_heap (h2 := hp (mtr S n [30, 10, 1])) (congrArg hp (mtr_app [30] S n [10, 1]).symm) ?_
  refine k_ineg eX12_restsIn_20 ?_
  refine k_ireturn eX12_restsIn_21 rfl rfl ?_
  exact ⟨rfl, rfl⟩
set_option maxHeartbeats 400000 in
theorem pX12_countsIn_2_0 {S : k_S} {B : Nat → Int32} {n p : Nat} {nb : Int32} (hac : S.1 2647 = nI p) (hbk : S.2.1 72 = B) (hran : S.1 2629 = nI n) (hn : n + 1 ≤ 24) (hpp : p < 50) (hB : B p = nI 2) (x : Int32) (hnb : nI p = nb) : Sp 1 0 0 MX12_countsIn [.ref 52, .int (nI 0), .int (x)] (hp S) (Rt (some (.int ((x ^^^ nb)))) (hp (mtr S n [11]))) := by
  refine Sp_of (by decide +kernel) (Nat.le_of_ble_eq_true rfl) ?_
  show AW none MX12_countsIn 1 0 0 0 [.ref 52, .int (nI 0), .int (x), .null] [] (hp S) _
  refine k_iload_n eX12_countsIn_0 rfl ?_
  refine k_iconst (v := nI 3) eX12_countsIn_1 (by decide) ?_
  refine k_icmp_neN 23 eX12_countsIn_2 (by decide) (by omega) (by omega) (fun c_2 => ?_) (fun c_2 => by exfalso; omega)
  refine k_iload_n eX12_countsIn_23 rfl ?_
  refine k_iconst (v := nI 4) eX12_countsIn_24 (by decide) ?_
  refine k_icmp_neN 61 eX12_countsIn_25 (by decide) (by omega) (by omega) (fun c_25 => ?_) (fun c_25 => by exfalso; omega)
  refine k_iload_n eX12_countsIn_61 rfl ?_
  refine k_if_leN 75 eX12_countsIn_62 (by decide) (by omega) (fun c_62 => ?_) (fun c_62 => by exfalso; omega)
  refine k_aload_n eX12_countsIn_75 rfl ?_
  refine k_bipush (v := nI 11) eX12_countsIn_76 (by decide) ?_
  refine cV0 (M' := MX12_runs) eX12_countsIn_78 mX12_308 wX12_runs vX12_runs ⟨_, _, _, rfl, rfl, rfl⟩ rfl (pX12_runs (S := S) (n := n) hran (by omega) 11) (by decide) (Nat.le_of_ble_eq_true rfl) ?_
  
  refine k_iload_n eX12_countsIn_81 rfl ?_
  refine k_aload_n eX12_countsIn_82 rfl ?_
  refine GX12_317 eX12_countsIn_83 rfl ?_
  refine k_topi (nI p) (show ((mtr S n [11])).1 2647 = nI p from mtr_1 (by decide) hac) ?_
  refine k_topi (nb) hnb ?_
  refine k_ixor eX12_countsIn_86 ?_
  refine k_ireturn eX12_countsIn_87 rfl rfl ?_
  exact ⟨rfl, rfl⟩
set_option maxHeartbeats 400000 in
theorem pX12_countsIn_2_2 {S : k_S} {B : Nat → Int32} {n p : Nat} {nb : Int32} (hac : S.1 2647 = nI p) (hbk : S.2.1 72 = B) (hran : S.1 2629 = nI n) (hn : n + 1 ≤ 24) (hpp : p < 50) (hB : B p = nI 2) (x : Int32) (hnb : nI p = nb) : Sp 2 0 0 MX12_countsIn [.ref 52, .int (nI 2), .int (x)] (hp S) (Rt (some (.int ((x ^^^ nb)))) (hp (mtr S n [11]))) := by
  refine Sp_of (by decide +kernel) (Nat.le_of_ble_eq_true rfl) ?_
  show AW none MX12_countsIn 2 0 0 0 [.ref 52, .int (nI 2), .int (x), .null] [] (hp S) _
  refine k_iload_n eX12_countsIn_0 rfl ?_
  refine k_iconst (v := nI 3) eX12_countsIn_1 (by decide) ?_
  refine k_icmp_neN 23 eX12_countsIn_2 (by decide) (by omega) (by omega) (fun c_2 => ?_) (fun c_2 => by exfalso; omega)
  refine k_iload_n eX12_countsIn_23 rfl ?_
  refine k_iconst (v := nI 4) eX12_countsIn_24 (by decide) ?_
  refine k_icmp_neN 61 eX12_countsIn_25 (by decide) (by omega) (by omega) (fun c_25 => ?_) (fun c_25 => by exfalso; omega)
  refine k_iload_n eX12_countsIn_61 rfl ?_
  refine k_if_leN 75 eX12_countsIn_62 (by decide) (by omega) (fun c_62 => by exfalso; omega) (fun c_62 => ?_)
  refine k_aload_n eX12_countsIn_65 rfl ?_
  refine k_iload_n eX12_countsIn_66 rfl ?_
  refine cS1 (M' := MX12_above) eX12_countsIn_67 mX12_311 wX12_above sX12_above rfl (pX12_above2) (by decide) (Nat.le_of_ble_eq_true rfl) ?_
  refine k_iload_n eX12_countsIn_70 rfl ?_
  refine cV1 (M' := MX12_countsIn) eX12_countsIn_71 mX12_323 wX12_countsIn vX12_countsIn ⟨_, _, _, rfl, rfl, rfl⟩ rfl (pX12_countsIn_2_0 (S := S) (n := n) (p := p) (nb := nb) hac hbk hran (by omega) hpp hB (x) hnb) (by decide) (Nat.le_of_ble_eq_true rfl) ?_
  
  refine k_ireturn eX12_countsIn_74 rfl rfl ?_
  exact ⟨rfl, rfl⟩
set_option maxHeartbeats 400000 in
theorem pX12_tells_2_0 {S : k_S} {B : Nat → Int32} {n p : Nat} {nb : Int32} (hac : S.1 2647 = nI p) (hbk : S.2.1 72 = B) (hran : S.1 2629 = nI n) (hn : n + 5 ≤ 24) (hpp : p < 50) (hB : B p = nI 2) (x : Int32) (hnb : nI p = nb) : Sp 5 0 0 MX12_tells [.ref 52, .int (nI 0), .int (x)] (hp S) (Rt (some (.int (((-(((x + nb) * nI 2))) - ((nI 1) ^^^ nb))))) (hp (mtr S n [2, 30, 10, 1, 11]))) := by
  refine Sp_of (by decide +kernel) (Nat.le_of_ble_eq_true rfl) ?_
  show AW none MX12_tells 5 0 0 0 [.ref 52, .int (nI 0), .int (x), .null] [] (hp S) _
  refine k_iload_n eX12_tells_0 rfl ?_
  refine k_iconst (v := nI 5) eX12_tells_1 (by decide) ?_
  refine k_icmp_neN 23 eX12_tells_2 (by decide) (by omega) (by omega) (fun c_2 => ?_) (fun c_2 => by exfalso; omega)
  refine k_iload_n eX12_tells_23 rfl ?_
  refine k_bipush (v := nI 7) eX12_tells_24 (by decide) ?_
  refine k_icmp_neN 47 eX12_tells_26 (by decide) (by omega) (by omega) (fun c_26 => ?_) (fun c_26 => by exfalso; omega)
  refine k_iload_n eX12_tells_47 rfl ?_
  refine k_if_leN 61 eX12_tells_48 (by decide) (by omega) (fun c_48 => ?_) (fun c_48 => by exfalso; omega)
  refine k_aload_n eX12_tells_61 rfl ?_
  refine k_iconst (v := nI 2) eX12_tells_62 (by decide) ?_
  refine cV0 (M' := MX12_runs) eX12_tells_63 mX12_308 wX12_runs vX12_runs ⟨_, _, _, rfl, rfl, rfl⟩ rfl (pX12_runs (S := S) (n := n) hran (by omega) 2) (by decide) (Nat.le_of_ble_eq_true rfl) ?_
  
  refine k_aload_n eX12_tells_66 rfl ?_
  refine k_aload_n eX12_tells_67 rfl ?_
  refine GX12_74 eX12_tells_68 rfl ?_
  refine k_aload_n eX12_tells_71 rfl ?_
  refine GX12_317 eX12_tells_72 rfl ?_
  refine k_topi (nI p) (show ((mtr S n [2])).1 2647 = nI p from mtr_1 (by decide) hac) ?_
  refine k_ialdN (j := p) eX12_tells_75 (ar72 _) (by omega) (Nat.le_of_ble_eq_true rfl) ?_
  refine k_topi (nI 2) ((congrFun (show (mtr S n [2]).2.1 72 = B from mtr_2 (by decide) hbk) p).trans hB) ?_
  refine k_iload_n eX12_tells_76 rfl ?_
  refine cV1 (M' := MX12_restsIn) eX12_tells_77 mX12_320 wX12_restsIn vX12_restsIn ⟨_, _, _, rfl, rfl, rfl⟩ rfl (pX12_restsIn_2_2 (S := (mtr S n [2])) (n := (n + 1)) (p := p) (nb := nb) (mtr_1 (by decide) hac) (mtr_2 (by decide) hbk) (mtr_R hran) (by omega) hpp hB (x) hnb) (by decide) (Nat.le_of_ble_eq_true rfl) ?_
  refine k_heap (h2 := hp (mtr S n [2, 30, 10, 1])) (congrArg hp (mtr_app [2] S n [30, 10, 1]).symm) ?_
  refine k_istore_n (L2 := [_, _, _, _]) eX12_tells_80 (Nat.le_of_ble_eq_true rfl) rfl ?_
  refine k_iload_n eX12_tells_81 rfl ?_
  refine k_aload_n eX12_tells_82 rfl ?_
  refine k_aload_n eX12_tells_83 rfl ?_
  refine GX12_74 eX12_tells_84 rfl ?_
  refine k_aload_n eX12_tells_87 rfl ?_
  refine GX12_317 eX12_tells_88 rfl ?_
  refine k_topi (nI p) (show ((mtr S n [2, 30, 10, 1])).1 2647 = nI p from mtr_1 (by decide) hac) ?_
  refine k_ialdN (j := p) eX12_tells_91 (ar72 _) (by omega) (Nat.le_of_ble_eq_true rfl) ?_
  refine k_topi (nI 2) ((congrFun (show (mtr S n [2, 30, 10, 1]).2.1 72 = B from mtr_2 (by decide) hbk) p).trans hB) ?_
  refine k_iconst (v := nI 1) eX12_tells_92 (by decide) ?_
  refine cV1 (M' := MX12_countsIn) eX12_tells_93 mX12_323 wX12_countsIn vX12_countsIn ⟨_, _, _, rfl, rfl, rfl⟩ rfl (pX12_countsIn_2_2 (S := (mtr S n [2, 30, 10, 1])) (n := (n + 4)) (p := p) (nb := nb) (mtr_1 (by decide) hac) (mtr_2 (by decide) hbk) (mtr_R hran) (by omega) hpp hB (nI 1) hnb) (by decide) (Nat.le_of_ble_eq_true rfl) ?_
  refine k_heap (h2 := hp (mtr S n [2, 30, 10, 1, 11])) (congrArg hp (mtr_app [2, 30, 10, 1] S n [11]).symm) ?_
  refine k_isub eX12_tells_96 ?_
  refine k_ireturn eX12_tells_97 rfl rfl ?_
  exact ⟨rfl, rfl⟩
set_option maxHeartbeats 400000 in
theorem pX12_tells_2_2 {S : k_S} {B : Nat → Int32} {n p : Nat} {nb : Int32} (hac : S.1 2647 = nI p) (hbk : S.2.1 72 = B) (hran : S.1 2629 = nI n) (hn : n + 5 ≤ 24) (hpp : p < 50) (hB : B p = nI 2) (x : Int32) (hnb : nI p = nb) : Sp 6 0 0 MX12_tells [.ref 52, .int (nI 2), .int (x)] (hp S) (Rt (some (.int (((-(((x + nb) * nI 2))) - ((nI 1) ^^^ nb))))) (hp (mtr S n [2, 30, 10, 1, 11]))) := by
  refine Sp_of (by decide +kernel) (Nat.le_of_ble_eq_true rfl) ?_
  show AW none MX12_tells 6 0 0 0 [.ref 52, .int (nI 2), .int (x), .null] [] (hp S) _
  refine k_iload_n eX12_tells_0 rfl ?_
  refine k_iconst (v := nI 5) eX12_tells_1 (by decide) ?_
  refine k_icmp_neN 23 eX12_tells_2 (by decide) (by omega) (by omega) (fun c_2 => ?_) (fun c_2 => by exfalso; omega)
  refine k_iload_n eX12_tells_23 rfl ?_
  refine k_bipush (v := nI 7) eX12_tells_24 (by decide) ?_
  refine k_icmp_neN 47 eX12_tells_26 (by decide) (by omega) (by omega) (fun c_26 => ?_) (fun c_26 => by exfalso; omega)
  refine k_iload_n eX12_tells_47 rfl ?_
  refine k_if_leN 61 eX12_tells_48 (by decide) (by omega) (fun c_48 => by exfalso; omega) (fun c_48 => ?_)
  refine k_aload_n eX12_tells_51 rfl ?_
  refine k_iload_n eX12_tells_52 rfl ?_
  refine cS1 (M' := MX12_above) eX12_tells_53 mX12_311 wX12_above sX12_above rfl (pX12_above2) (by decide) (Nat.le_of_ble_eq_true rfl) ?_
  refine k_iload_n eX12_tells_56 rfl ?_
  refine cV1 (M' := MX12_tells) eX12_tells_57 mX12_326 wX12_tells vX12_tells ⟨_, _, _, rfl, rfl, rfl⟩ rfl (pX12_tells_2_0 (S := S) (n := n) (p := p) (nb := nb) hac hbk hran (by omega) hpp hB (x) hnb) (by decide) (Nat.le_of_ble_eq_true rfl) ?_
  
  refine k_ireturn eX12_tells_60 rfl rfl ?_
  exact ⟨rfl, rfl⟩
set_option maxHeartbeats 400000 in
theorem pX12_worksIn_3_0 {S : k_S} {B : Nat → Int32} {n p : Nat} {nb : Int32} (hac : S.1 2647 = nI p) (hbk : S.2.1 72 = B) (hran : S.1 2629 = nI n) (hn : n + 1 ≤ 24) (hpp : p < 50) (hB : B p = nI 3) (x : Int32) (hnb : nI p = nb) : Sp 1 0 0 MX12_worksIn [.ref 52, .int (nI 0), .int (x)] (hp S) (Rt (some (.int ((x + nb)))) (hp (mtr S n [1]))) := by
  refine Sp_of (by decide +kernel) (Nat.le_of_ble_eq_true rfl) ?_
  show AW none MX12_worksIn 1 0 0 0 [.ref 52, .int (nI 0), .int (x)] [] (hp S) _
  refine k_iload_n eX12_worksIn_0 rfl ?_
  refine k_iconst (v := nI 1) eX12_worksIn_1 (by decide) ?_
  refine k_icmp_neN 23 eX12_worksIn_2 (by decide) (by omega) (by omega) (fun c_2 => ?_) (fun c_2 => by exfalso; omega)
  refine k_iload_n eX12_worksIn_23 rfl ?_
  refine k_iconst (v := nI 3) eX12_worksIn_24 (by decide) ?_
  refine k_icmp_neN 46 eX12_worksIn_25 (by decide) (by omega) (by omega) (fun c_25 => ?_) (fun c_25 => by exfalso; omega)
  refine k_iload_n eX12_worksIn_46 rfl ?_
  refine k_bipush (v := nI 6) eX12_worksIn_47 (by decide) ?_
  refine k_icmp_neN 70 eX12_worksIn_49 (by decide) (by omega) (by omega) (fun c_49 => ?_) (fun c_49 => by exfalso; omega)
  refine k_iload_n eX12_worksIn_70 rfl ?_
  refine k_if_leN 84 eX12_worksIn_71 (by decide) (by omega) (fun c_71 => ?_) (fun c_71 => by exfalso; omega)
  refine k_aload_n eX12_worksIn_84 rfl ?_
  refine k_iconst (v := nI 1) eX12_worksIn_85 (by decide) ?_
  refine cV0 (M' := MX12_runs) eX12_worksIn_86 mX12_308 wX12_runs vX12_runs ⟨_, _, _, rfl, rfl, rfl⟩ rfl (pX12_runs (S := S) (n := n) hran (by omega) 1) (by decide) (Nat.le_of_ble_eq_true rfl) ?_
  
  refine k_iload_n eX12_worksIn_89 rfl ?_
  refine k_aload_n eX12_worksIn_90 rfl ?_
  refine GX12_317 eX12_worksIn_91 rfl ?_
  refine k_topi (nI p) (show ((mtr S n [1])).1 2647 = nI p from mtr_1 (by decide) hac) ?_
  refine k_topi (nb) hnb ?_
  refine k_iadd eX12_worksIn_94 ?_
  refine k_ireturn eX12_worksIn_95 rfl rfl ?_
  exact ⟨rfl, rfl⟩
set_option maxHeartbeats 400000 in
theorem pX12_worksIn_3_2 {S : k_S} {B : Nat → Int32} {n p : Nat} {nb : Int32} (hac : S.1 2647 = nI p) (hbk : S.2.1 72 = B) (hran : S.1 2629 = nI n) (hn : n + 1 ≤ 24) (hpp : p < 50) (hB : B p = nI 3) (x : Int32) (hnb : nI p = nb) : Sp 2 0 0 MX12_worksIn [.ref 52, .int (nI 2), .int (x)] (hp S) (Rt (some (.int ((x + nb)))) (hp (mtr S n [1]))) := by
  refine Sp_of (by decide +kernel) (Nat.le_of_ble_eq_true rfl) ?_
  show AW none MX12_worksIn 2 0 0 0 [.ref 52, .int (nI 2), .int (x)] [] (hp S) _
  refine k_iload_n eX12_worksIn_0 rfl ?_
  refine k_iconst (v := nI 1) eX12_worksIn_1 (by decide) ?_
  refine k_icmp_neN 23 eX12_worksIn_2 (by decide) (by omega) (by omega) (fun c_2 => ?_) (fun c_2 => by exfalso; omega)
  refine k_iload_n eX12_worksIn_23 rfl ?_
  refine k_iconst (v := nI 3) eX12_worksIn_24 (by decide) ?_
  refine k_icmp_neN 46 eX12_worksIn_25 (by decide) (by omega) (by omega) (fun c_25 => ?_) (fun c_25 => by exfalso; omega)
  refine k_iload_n eX12_worksIn_46 rfl ?_
  refine k_bipush (v := nI 6) eX12_worksIn_47 (by decide) ?_
  refine k_icmp_neN 70 eX12_worksIn_49 (by decide) (by omega) (by omega) (fun c_49 => ?_) (fun c_49 => by exfalso; omega)
  refine k_iload_n eX12_worksIn_70 rfl ?_
  refine k_if_leN 84 eX12_worksIn_71 (by decide) (by omega) (fun c_71 => by exfalso; omega) (fun c_71 => ?_)
  refine k_aload_n eX12_worksIn_74 rfl ?_
  refine k_iload_n eX12_worksIn_75 rfl ?_
  refine cS1 (M' := MX12_above) eX12_worksIn_76 mX12_311 wX12_above sX12_above rfl (pX12_above2) (by decide) (Nat.le_of_ble_eq_true rfl) ?_
  refine k_iload_n eX12_worksIn_79 rfl ?_
  refine cV1 (M' := MX12_worksIn) eX12_worksIn_80 mX12_314 wX12_worksIn vX12_worksIn ⟨_, _, _, rfl, rfl, rfl⟩ rfl (pX12_worksIn_3_0 (S := S) (n := n) (p := p) (nb := nb) hac hbk hran (by omega) hpp hB (x) hnb) (by decide) (Nat.le_of_ble_eq_true rfl) ?_
  
  refine k_ireturn eX12_worksIn_83 rfl rfl ?_
  exact ⟨rfl, rfl⟩
set_option maxHeartbeats 400000 in
theorem pX12_worksIn_3_3 {S : k_S} {B : Nat → Int32} {n p : Nat} {nb : Int32} (hac : S.1 2647 = nI p) (hbk : S.2.1 72 = B) (hran : S.1 2629 = nI n) (hn : n + 2 ≤ 24) (hpp : p < 50) (hB : B p = nI 3) (x : Int32) (hnb : nI p = nb) : Sp 3 0 0 MX12_worksIn [.ref 52, .int (nI 3), .int (x)] (hp S) (Rt (some (.int (((x + nI 1) + nb)))) (hp (mtr S n [41, 1]))) := by
  refine Sp_of (by decide +kernel) (Nat.le_of_ble_eq_true rfl) ?_
  show AW none MX12_worksIn 3 0 0 0 [.ref 52, .int (nI 3), .int (x)] [] (hp S) _
  refine k_iload_n eX12_worksIn_0 rfl ?_
  refine k_iconst (v := nI 1) eX12_worksIn_1 (by decide) ?_
  refine k_icmp_neN 23 eX12_worksIn_2 (by decide) (by omega) (by omega) (fun c_2 => ?_) (fun c_2 => by exfalso; omega)
  refine k_iload_n eX12_worksIn_23 rfl ?_
  refine k_iconst (v := nI 3) eX12_worksIn_24 (by decide) ?_
  refine k_icmp_neN 46 eX12_worksIn_25 (by decide) (by omega) (by omega) (fun c_25 => by exfalso; omega) (fun c_25 => ?_)
  refine k_aload_n eX12_worksIn_28 rfl ?_
  refine k_bipush (v := nI 41) eX12_worksIn_29 (by decide) ?_
  refine cV0 (M' := MX12_runs) eX12_worksIn_31 mX12_308 wX12_runs vX12_runs ⟨_, _, _, rfl, rfl, rfl⟩ rfl (pX12_runs (S := S) (n := n) hran (by omega) 41) (by decide) (Nat.le_of_ble_eq_true rfl) ?_
  
  refine k_aload_n eX12_worksIn_34 rfl ?_
  refine k_iload_n eX12_worksIn_35 rfl ?_
  refine cS1 (M' := MX12_above) eX12_worksIn_36 mX12_311 wX12_above sX12_above rfl (pX12_above3) (by decide) (Nat.le_of_ble_eq_true rfl) ?_
  refine k_iload_n eX12_worksIn_39 rfl ?_
  refine k_iconst (v := nI 1) eX12_worksIn_40 (by decide) ?_
  refine k_iadd eX12_worksIn_41 ?_
  refine cV1 (M' := MX12_worksIn) eX12_worksIn_42 mX12_314 wX12_worksIn vX12_worksIn ⟨_, _, _, rfl, rfl, rfl⟩ rfl (pX12_worksIn_3_2 (S := (mtr S n [41])) (n := (n + 1)) (p := p) (nb := nb) (mtr_1 (by decide) hac) (mtr_2 (by decide) hbk) (mtr_R hran) (by omega) hpp hB ((x + nI 1)) hnb) (by decide) (Nat.le_of_ble_eq_true rfl) ?_
  refine k_heap (h2 := hp (mtr S n [41, 1])) (congrArg hp (mtr_app [41] S n [1]).symm) ?_
  refine k_ireturn eX12_worksIn_45 rfl rfl ?_
  exact ⟨rfl, rfl⟩
set_option maxHeartbeats 400000 in
theorem pX12_restsIn_3_0 {S : k_S} {B : Nat → Int32} {n p : Nat} {nb : Int32} (hac : S.1 2647 = nI p) (hbk : S.2.1 72 = B) (hran : S.1 2629 = nI n) (hn : n + 3 ≤ 24) (hpp : p < 50) (hB : B p = nI 3) (x : Int32) (hnb : nI p = nb) : Sp 4 0 0 MX12_restsIn [.ref 52, .int (nI 0), .int (x)] (hp S) (Rt (some (.int ((((x + nI 1) + nb) * nI 2)))) (hp (mtr S n [10, 41, 1]))) := by
  refine Sp_of (by decide +kernel) (Nat.le_of_ble_eq_true rfl) ?_
  show AW none MX12_restsIn 4 0 0 0 [.ref 52, .int (nI 0), .int (x), .null] [] (hp S) _
  refine k_iload_n eX12_restsIn_0 rfl ?_
  refine k_iconst (v := nI 2) eX12_restsIn_1 (by decide) ?_
  refine k_icmp_neN 22 eX12_restsIn_2 (by decide) (by omega) (by omega) (fun c_2 => ?_) (fun c_2 => by exfalso; omega)
  refine k_iload_n eX12_restsIn_22 rfl ?_
  refine k_bipush (v := nI 7) eX12_restsIn_23 (by decide) ?_
  refine k_icmp_neN 61 eX12_restsIn_25 (by decide) (by omega) (by omega) (fun c_25 => ?_) (fun c_25 => by exfalso; omega)
  refine k_iload_n eX12_restsIn_61 rfl ?_
  refine k_if_leN 75 eX12_restsIn_62 (by decide) (by omega) (fun c_62 => ?_) (fun c_62 => by exfalso; omega)
  refine k_aload_n eX12_restsIn_75 rfl ?_
  refine k_bipush (v := nI 10) eX12_restsIn_76 (by decide) ?_
  refine cV0 (M' := MX12_runs) eX12_restsIn_78 mX12_308 wX12_runs vX12_runs ⟨_, _, _, rfl, rfl, rfl⟩ rfl (pX12_runs (S := S) (n := n) hran (by omega) 10) (by decide) (Nat.le_of_ble_eq_true rfl) ?_
  
  refine k_aload_n eX12_restsIn_81 rfl ?_
  refine k_aload_n eX12_restsIn_82 rfl ?_
  refine GX12_74 eX12_restsIn_83 rfl ?_
  refine k_aload_n eX12_restsIn_86 rfl ?_
  refine GX12_317 eX12_restsIn_87 rfl ?_
  refine k_topi (nI p) (show ((mtr S n [10])).1 2647 = nI p from mtr_1 (by decide) hac) ?_
  refine k_ialdN (j := p) eX12_restsIn_90 (ar72 _) (by omega) (Nat.le_of_ble_eq_true rfl) ?_
  refine k_topi (nI 3) ((congrFun (show (mtr S n [10]).2.1 72 = B from mtr_2 (by decide) hbk) p).trans hB) ?_
  refine k_iload_n eX12_restsIn_91 rfl ?_
  refine cV1 (M' := MX12_worksIn) eX12_restsIn_92 mX12_314 wX12_worksIn vX12_worksIn ⟨_, _, _, rfl, rfl, rfl⟩ rfl (pX12_worksIn_3_3 (S := (mtr S n [10])) (n := (n + 1)) (p := p) (nb := nb) (mtr_1 (by decide) hac) (mtr_2 (by decide) hbk) (mtr_R hran) (by omega) hpp hB (x) hnb) (by decide) (Nat.le_of_ble_eq_true rfl) ?_
  refine k_heap (h2 := hp (mtr S n [10, 41, 1])) (congrArg hp (mtr_app [10] S n [41, 1]).symm) ?_
  refine k_iconst (v := nI 2) eX12_restsIn_95 (by decide) ?_
  refine k_imul eX12_restsIn_96 ?_
  refine k_ireturn eX12_restsIn_97 rfl rfl ?_
  exact ⟨rfl, rfl⟩
set_option maxHeartbeats 400000 in
theorem pX12_restsIn_3_2 {S : k_S} {B : Nat → Int32} {n p : Nat} {nb : Int32} (hac : S.1 2647 = nI p) (hbk : S.2.1 72 = B) (hran : S.1 2629 = nI n) (hn : n + 4 ≤ 24) (hpp : p < 50) (hB : B p = nI 3) (x : Int32) (hnb : nI p = nb) : Sp 5 0 0 MX12_restsIn [.ref 52, .int (nI 2), .int (x)] (hp S) (Rt (some (.int ((-((((x + nI 1) + nb) * nI 2)))))) (hp (mtr S n [30, 10, 41, 1]))) := by
  refine Sp_of (by decide +kernel) (Nat.le_of_ble_eq_true rfl) ?_
  show AW none MX12_restsIn 5 0 0 0 [.ref 52, .int (nI 2), .int (x), .null] [] (hp S) _
  refine k_iload_n eX12_restsIn_0 rfl ?_
  refine k_iconst (v := nI 2) eX12_restsIn_1 (by decide) ?_
  refine k_icmp_neN 22 eX12_restsIn_2 (by decide) (by omega) (by omega) (fun c_2 => by exfalso; omega) (fun c_2 => ?_)
  refine k_aload_n eX12_restsIn_5 rfl ?_
  refine k_bipush (v := nI 30) eX12_restsIn_6 (by decide) ?_
  refine cV0 (M' := MX12_runs) eX12_restsIn_8 mX12_308 wX12_runs vX12_runs ⟨_, _, _, rfl, rfl, rfl⟩ rfl (pX12_runs (S := S) (n := n) hran (by omega) 30) (by decide) (Nat.le_of_ble_eq_true rfl) ?_
  
  refine k_aload_n eX12_restsIn_11 rfl ?_
  refine k_iload_n eX12_restsIn_12 rfl ?_
  refine cS1 (M' := MX12_above) eX12_restsIn_13 mX12_311 wX12_above sX12_above rfl (pX12_above2) (by decide) (Nat.le_of_ble_eq_true rfl) ?_
  refine k_iload_n eX12_restsIn_16 rfl ?_
  refine cV1 (M' := MX12_restsIn) eX12_restsIn_17 mX12_320 wX12_restsIn vX12_restsIn ⟨_, _, _, rfl, rfl, rfl⟩ rfl (pX12_restsIn_3_0 (S := (mtr S n [30])) (n := (n + 1)) (p := p) (nb := nb) (mtr_1 (by decide) hac) (mtr_2 (by decide) hbk) (mtr_R hran) (by omega) hpp hB (x) hnb) (by decide) (Nat.le_of_ble_eq_true rfl) ?_
  refine k_heap (h2 := hp (mtr S n [30, 10, 41, 1])) (congrArg hp (mtr_app [30] S n [10, 41, 1]).symm) ?_
  refine k_ineg eX12_restsIn_20 ?_
  refine k_ireturn eX12_restsIn_21 rfl rfl ?_
  exact ⟨rfl, rfl⟩
set_option maxHeartbeats 400000 in
theorem pX12_restsIn_3_3 {S : k_S} {B : Nat → Int32} {n p : Nat} {nb : Int32} (hac : S.1 2647 = nI p) (hbk : S.2.1 72 = B) (hran : S.1 2629 = nI n) (hn : n + 4 ≤ 24) (hpp : p < 50) (hB : B p = nI 3) (x : Int32) (hnb : nI p = nb) : Sp 6 0 0 MX12_restsIn [.ref 52, .int (nI 3), .int (x)] (hp S) (Rt (some (.int ((-((((x + nI 1) + nb) * nI 2)))))) (hp (mtr S n [30, 10, 41, 1]))) := by
  refine Sp_of (by decide +kernel) (Nat.le_of_ble_eq_true rfl) ?_
  show AW none MX12_restsIn 6 0 0 0 [.ref 52, .int (nI 3), .int (x), .null] [] (hp S) _
  refine k_iload_n eX12_restsIn_0 rfl ?_
  refine k_iconst (v := nI 2) eX12_restsIn_1 (by decide) ?_
  refine k_icmp_neN 22 eX12_restsIn_2 (by decide) (by omega) (by omega) (fun c_2 => ?_) (fun c_2 => by exfalso; omega)
  refine k_iload_n eX12_restsIn_22 rfl ?_
  refine k_bipush (v := nI 7) eX12_restsIn_23 (by decide) ?_
  refine k_icmp_neN 61 eX12_restsIn_25 (by decide) (by omega) (by omega) (fun c_25 => ?_) (fun c_25 => by exfalso; omega)
  refine k_iload_n eX12_restsIn_61 rfl ?_
  refine k_if_leN 75 eX12_restsIn_62 (by decide) (by omega) (fun c_62 => by exfalso; omega) (fun c_62 => ?_)
  refine k_aload_n eX12_restsIn_65 rfl ?_
  refine k_iload_n eX12_restsIn_66 rfl ?_
  refine cS1 (M' := MX12_above) eX12_restsIn_67 mX12_311 wX12_above sX12_above rfl (pX12_above3) (by decide) (Nat.le_of_ble_eq_true rfl) ?_
  refine k_iload_n eX12_restsIn_70 rfl ?_
  refine cV1 (M' := MX12_restsIn) eX12_restsIn_71 mX12_320 wX12_restsIn vX12_restsIn ⟨_, _, _, rfl, rfl, rfl⟩ rfl (pX12_restsIn_3_2 (S := S) (n := n) (p := p) (nb := nb) hac hbk hran (by omega) hpp hB (x) hnb) (by decide) (Nat.le_of_ble_eq_true rfl) ?_
  
  refine k_ireturn eX12_restsIn_74 rfl rfl ?_
  exact ⟨rfl, rfl⟩
set_option maxHeartbeats 400000 in
theorem pX12_countsIn_3_0 {S : k_S} {B : Nat → Int32} {n p : Nat} {nb : Int32} (hac : S.1 2647 = nI p) (hbk : S.2.1 72 = B) (hran : S.1 2629 = nI n) (hn : n + 1 ≤ 24) (hpp : p < 50) (hB : B p = nI 3) (x : Int32) (hnb : nI p = nb) : Sp 1 0 0 MX12_countsIn [.ref 52, .int (nI 0), .int (x)] (hp S) (Rt (some (.int ((x ^^^ nb)))) (hp (mtr S n [11]))) := by
  refine Sp_of (by decide +kernel) (Nat.le_of_ble_eq_true rfl) ?_
  show AW none MX12_countsIn 1 0 0 0 [.ref 52, .int (nI 0), .int (x), .null] [] (hp S) _
  refine k_iload_n eX12_countsIn_0 rfl ?_
  refine k_iconst (v := nI 3) eX12_countsIn_1 (by decide) ?_
  refine k_icmp_neN 23 eX12_countsIn_2 (by decide) (by omega) (by omega) (fun c_2 => ?_) (fun c_2 => by exfalso; omega)
  refine k_iload_n eX12_countsIn_23 rfl ?_
  refine k_iconst (v := nI 4) eX12_countsIn_24 (by decide) ?_
  refine k_icmp_neN 61 eX12_countsIn_25 (by decide) (by omega) (by omega) (fun c_25 => ?_) (fun c_25 => by exfalso; omega)
  refine k_iload_n eX12_countsIn_61 rfl ?_
  refine k_if_leN 75 eX12_countsIn_62 (by decide) (by omega) (fun c_62 => ?_) (fun c_62 => by exfalso; omega)
  refine k_aload_n eX12_countsIn_75 rfl ?_
  refine k_bipush (v := nI 11) eX12_countsIn_76 (by decide) ?_
  refine cV0 (M' := MX12_runs) eX12_countsIn_78 mX12_308 wX12_runs vX12_runs ⟨_, _, _, rfl, rfl, rfl⟩ rfl (pX12_runs (S := S) (n := n) hran (by omega) 11) (by decide) (Nat.le_of_ble_eq_true rfl) ?_
  
  refine k_iload_n eX12_countsIn_81 rfl ?_
  refine k_aload_n eX12_countsIn_82 rfl ?_
  refine GX12_317 eX12_countsIn_83 rfl ?_
  refine k_topi (nI p) (show ((mtr S n [11])).1 2647 = nI p from mtr_1 (by decide) hac) ?_
  refine k_topi (nb) hnb ?_
  refine k_ixor eX12_countsIn_86 ?_
  refine k_ireturn eX12_countsIn_87 rfl rfl ?_
  exact ⟨rfl, rfl⟩
set_option maxHeartbeats 400000 in
theorem pX12_countsIn_3_2 {S : k_S} {B : Nat → Int32} {n p : Nat} {nb : Int32} (hac : S.1 2647 = nI p) (hbk : S.2.1 72 = B) (hran : S.1 2629 = nI n) (hn : n + 1 ≤ 24) (hpp : p < 50) (hB : B p = nI 3) (x : Int32) (hnb : nI p = nb) : Sp 2 0 0 MX12_countsIn [.ref 52, .int (nI 2), .int (x)] (hp S) (Rt (some (.int ((x ^^^ nb)))) (hp (mtr S n [11]))) := by
  refine Sp_of (by decide +kernel) (Nat.le_of_ble_eq_true rfl) ?_
  show AW none MX12_countsIn 2 0 0 0 [.ref 52, .int (nI 2), .int (x), .null] [] (hp S) _
  refine k_iload_n eX12_countsIn_0 rfl ?_
  refine k_iconst (v := nI 3) eX12_countsIn_1 (by decide) ?_
  refine k_icmp_neN 23 eX12_countsIn_2 (by decide) (by omega) (by omega) (fun c_2 => ?_) (fun c_2 => by exfalso; omega)
  refine k_iload_n eX12_countsIn_23 rfl ?_
  refine k_iconst (v := nI 4) eX12_countsIn_24 (by decide) ?_
  refine k_icmp_neN 61 eX12_countsIn_25 (by decide) (by omega) (by omega) (fun c_25 => ?_) (fun c_25 => by exfalso; omega)
  refine k_iload_n eX12_countsIn_61 rfl ?_
  refine k_if_leN 75 eX12_countsIn_62 (by decide) (by omega) (fun c_62 => by exfalso; omega) (fun c_62 => ?_)
  refine k_aload_n eX12_countsIn_65 rfl ?_
  refine k_iload_n eX12_countsIn_66 rfl ?_
  refine cS1 (M' := MX12_above) eX12_countsIn_67 mX12_311 wX12_above sX12_above rfl (pX12_above2) (by decide) (Nat.le_of_ble_eq_true rfl) ?_
  refine k_iload_n eX12_countsIn_70 rfl ?_
  refine cV1 (M' := MX12_countsIn) eX12_countsIn_71 mX12_323 wX12_countsIn vX12_countsIn ⟨_, _, _, rfl, rfl, rfl⟩ rfl (pX12_countsIn_3_0 (S := S) (n := n) (p := p) (nb := nb) hac hbk hran (by omega) hpp hB (x) hnb) (by decide) (Nat.le_of_ble_eq_true rfl) ?_
  
  refine k_ireturn eX12_countsIn_74 rfl rfl ?_
  exact ⟨rfl, rfl⟩
set_option maxHeartbeats 400000 in
theorem pX12_countsIn_3_3 {S : k_S} {B : Nat → Int32} {n p : Nat} {nb : Int32} (hac : S.1 2647 = nI p) (hbk : S.2.1 72 = B) (hran : S.1 2629 = nI n) (hn : n + 2 ≤ 24) (hpp : p < 50) (hB : B p = nI 3) (x : Int32) (hnb : nI p = nb) : Sp 3 0 0 MX12_countsIn [.ref 52, .int (nI 3), .int (x)] (hp S) (Rt (some (.int (((x ^^^ nb) * nI 3)))) (hp (mtr S n [40, 11]))) := by
  refine Sp_of (by decide +kernel) (Nat.le_of_ble_eq_true rfl) ?_
  show AW none MX12_countsIn 3 0 0 0 [.ref 52, .int (nI 3), .int (x), .null] [] (hp S) _
  refine k_iload_n eX12_countsIn_0 rfl ?_
  refine k_iconst (v := nI 3) eX12_countsIn_1 (by decide) ?_
  refine k_icmp_neN 23 eX12_countsIn_2 (by decide) (by omega) (by omega) (fun c_2 => by exfalso; omega) (fun c_2 => ?_)
  refine k_aload_n eX12_countsIn_5 rfl ?_
  refine k_bipush (v := nI 40) eX12_countsIn_6 (by decide) ?_
  refine cV0 (M' := MX12_runs) eX12_countsIn_8 mX12_308 wX12_runs vX12_runs ⟨_, _, _, rfl, rfl, rfl⟩ rfl (pX12_runs (S := S) (n := n) hran (by omega) 40) (by decide) (Nat.le_of_ble_eq_true rfl) ?_
  
  refine k_aload_n eX12_countsIn_11 rfl ?_
  refine k_iload_n eX12_countsIn_12 rfl ?_
  refine cS1 (M' := MX12_above) eX12_countsIn_13 mX12_311 wX12_above sX12_above rfl (pX12_above3) (by decide) (Nat.le_of_ble_eq_true rfl) ?_
  refine k_iload_n eX12_countsIn_16 rfl ?_
  refine cV1 (M' := MX12_countsIn) eX12_countsIn_17 mX12_323 wX12_countsIn vX12_countsIn ⟨_, _, _, rfl, rfl, rfl⟩ rfl (pX12_countsIn_3_2 (S := (mtr S n [40])) (n := (n + 1)) (p := p) (nb := nb) (mtr_1 (by decide) hac) (mtr_2 (by decide) hbk) (mtr_R hran) (by omega) hpp hB (x) hnb) (by decide) (Nat.le_of_ble_eq_true rfl) ?_
  refine k_heap (h2 := hp (mtr S n [40, 11])) (congrArg hp (mtr_app [40] S n [11]).symm) ?_
  refine k_iconst (v := nI 3) eX12_countsIn_20 (by decide) ?_
  refine k_imul eX12_countsIn_21 ?_
  refine k_ireturn eX12_countsIn_22 rfl rfl ?_
  exact ⟨rfl, rfl⟩
set_option maxHeartbeats 400000 in
theorem pX12_tells_3_0 {S : k_S} {B : Nat → Int32} {n p : Nat} {nb : Int32} (hac : S.1 2647 = nI p) (hbk : S.2.1 72 = B) (hran : S.1 2629 = nI n) (hn : n + 7 ≤ 24) (hpp : p < 50) (hB : B p = nI 3) (x : Int32) (hnb : nI p = nb) : Sp 7 0 0 MX12_tells [.ref 52, .int (nI 0), .int (x)] (hp S) (Rt (some (.int (((-((((x + nI 1) + nb) * nI 2))) - (((nI 1) ^^^ nb) * nI 3))))) (hp (mtr S n [2, 30, 10, 41, 1, 40, 11]))) := by
  refine Sp_of (by decide +kernel) (Nat.le_of_ble_eq_true rfl) ?_
  show AW none MX12_tells 7 0 0 0 [.ref 52, .int (nI 0), .int (x), .null] [] (hp S) _
  refine k_iload_n eX12_tells_0 rfl ?_
  refine k_iconst (v := nI 5) eX12_tells_1 (by decide) ?_
  refine k_icmp_neN 23 eX12_tells_2 (by decide) (by omega) (by omega) (fun c_2 => ?_) (fun c_2 => by exfalso; omega)
  refine k_iload_n eX12_tells_23 rfl ?_
  refine k_bipush (v := nI 7) eX12_tells_24 (by decide) ?_
  refine k_icmp_neN 47 eX12_tells_26 (by decide) (by omega) (by omega) (fun c_26 => ?_) (fun c_26 => by exfalso; omega)
  refine k_iload_n eX12_tells_47 rfl ?_
  refine k_if_leN 61 eX12_tells_48 (by decide) (by omega) (fun c_48 => ?_) (fun c_48 => by exfalso; omega)
  refine k_aload_n eX12_tells_61 rfl ?_
  refine k_iconst (v := nI 2) eX12_tells_62 (by decide) ?_
  refine cV0 (M' := MX12_runs) eX12_tells_63 mX12_308 wX12_runs vX12_runs ⟨_, _, _, rfl, rfl, rfl⟩ rfl (pX12_runs (S := S) (n := n) hran (by omega) 2) (by decide) (Nat.le_of_ble_eq_true rfl) ?_
  
  refine k_aload_n eX12_tells_66 rfl ?_
  refine k_aload_n eX12_tells_67 rfl ?_
  refine GX12_74 eX12_tells_68 rfl ?_
  refine k_aload_n eX12_tells_71 rfl ?_
  refine GX12_317 eX12_tells_72 rfl ?_
  refine k_topi (nI p) (show ((mtr S n [2])).1 2647 = nI p from mtr_1 (by decide) hac) ?_
  refine k_ialdN (j := p) eX12_tells_75 (ar72 _) (by omega) (Nat.le_of_ble_eq_true rfl) ?_
  refine k_topi (nI 3) ((congrFun (show (mtr S n [2]).2.1 72 = B from mtr_2 (by decide) hbk) p).trans hB) ?_
  refine k_iload_n eX12_tells_76 rfl ?_
  refine cV1 (M' := MX12_restsIn) eX12_tells_77 mX12_320 wX12_restsIn vX12_restsIn ⟨_, _, _, rfl, rfl, rfl⟩ rfl (pX12_restsIn_3_3 (S := (mtr S n [2])) (n := (n + 1)) (p := p) (nb := nb) (mtr_1 (by decide) hac) (mtr_2 (by decide) hbk) (mtr_R hran) (by omega) hpp hB (x) hnb) (by decide) (Nat.le_of_ble_eq_true rfl) ?_
  refine k_heap (h2 := hp (mtr S n [2, 30, 10, 41, 1])) (congrArg hp (mtr_app [2] S n [30, 10, 41, 1]).symm) ?_
  refine k_istore_n (L2 := [_, _, _, _]) eX12_tells_80 (Nat.le_of_ble_eq_true rfl) rfl ?_
  refine k_iload_n eX12_tells_81 rfl ?_
  refine k_aload_n eX12_tells_82 rfl ?_
  refine k_aload_n eX12_tells_83 rfl ?_
  refine GX12_74 eX12_tells_84 rfl ?_
  refine k_aload_n eX12_tells_87 rfl ?_
  refine GX12_317 eX12_tells_88 rfl ?_
  refine k_topi (nI p) (show ((mtr S n [2, 30, 10, 41, 1])).1 2647 = nI p from mtr_1 (by decide) hac) ?_
  refine k_ialdN (j := p) eX12_tells_91 (ar72 _) (by omega) (Nat.le_of_ble_eq_true rfl) ?_
  refine k_topi (nI 3) ((congrFun (show (mtr S n [2, 30, 10, 41, 1]).2.1 72 = B from mtr_2 (by decide) hbk) p).trans hB) ?_
  refine k_iconst (v := nI 1) eX12_tells_92 (by decide) ?_
  refine cV1 (M' := MX12_countsIn) eX12_tells_93 mX12_323 wX12_countsIn vX12_countsIn ⟨_, _, _, rfl, rfl, rfl⟩ rfl (pX12_countsIn_3_3 (S := (mtr S n [2, 30, 10, 41, 1])) (n := (n + 5)) (p := p) (nb := nb) (mtr_1 (by decide) hac) (mtr_2 (by decide) hbk) (mtr_R hran) (by omega) hpp hB (nI 1) hnb) (by decide) (Nat.le_of_ble_eq_true rfl) ?_
  refine k_heap (h2 := hp (mtr S n [2, 30, 10, 41, 1, 40, 11])) (congrArg hp (mtr_app [2, 30, 10, 41, 1] S n [40, 11]).symm) ?_
  refine k_isub eX12_tells_96 ?_
  refine k_ireturn eX12_tells_97 rfl rfl ?_
  exact ⟨rfl, rfl⟩
set_option maxHeartbeats 400000 in
theorem pX12_tells_3_2 {S : k_S} {B : Nat → Int32} {n p : Nat} {nb : Int32} (hac : S.1 2647 = nI p) (hbk : S.2.1 72 = B) (hran : S.1 2629 = nI n) (hn : n + 7 ≤ 24) (hpp : p < 50) (hB : B p = nI 3) (x : Int32) (hnb : nI p = nb) : Sp 8 0 0 MX12_tells [.ref 52, .int (nI 2), .int (x)] (hp S) (Rt (some (.int (((-((((x + nI 1) + nb) * nI 2))) - (((nI 1) ^^^ nb) * nI 3))))) (hp (mtr S n [2, 30, 10, 41, 1, 40, 11]))) := by
  refine Sp_of (by decide +kernel) (Nat.le_of_ble_eq_true rfl) ?_
  show AW none MX12_tells 8 0 0 0 [.ref 52, .int (nI 2), .int (x), .null] [] (hp S) _
  refine k_iload_n eX12_tells_0 rfl ?_
  refine k_iconst (v := nI 5) eX12_tells_1 (by decide) ?_
  refine k_icmp_neN 23 eX12_tells_2 (by decide) (by omega) (by omega) (fun c_2 => ?_) (fun c_2 => by exfalso; omega)
  refine k_iload_n eX12_tells_23 rfl ?_
  refine k_bipush (v := nI 7) eX12_tells_24 (by decide) ?_
  refine k_icmp_neN 47 eX12_tells_26 (by decide) (by omega) (by omega) (fun c_26 => ?_) (fun c_26 => by exfalso; omega)
  refine k_iload_n eX12_tells_47 rfl ?_
  refine k_if_leN 61 eX12_tells_48 (by decide) (by omega) (fun c_48 => by exfalso; omega) (fun c_48 => ?_)
  refine k_aload_n eX12_tells_51 rfl ?_
  refine k_iload_n eX12_tells_52 rfl ?_
  refine cS1 (M' := MX12_above) eX12_tells_53 mX12_311 wX12_above sX12_above rfl (pX12_above2) (by decide) (Nat.le_of_ble_eq_true rfl) ?_
  refine k_iload_n eX12_tells_56 rfl ?_
  refine cV1 (M' := MX12_tells) eX12_tells_57 mX12_326 wX12_tells vX12_tells ⟨_, _, _, rfl, rfl, rfl⟩ rfl (pX12_tells_3_0 (S := S) (n := n) (p := p) (nb := nb) hac hbk hran (by omega) hpp hB (x) hnb) (by decide) (Nat.le_of_ble_eq_true rfl) ?_
  
  refine k_ireturn eX12_tells_60 rfl rfl ?_
  exact ⟨rfl, rfl⟩
set_option maxHeartbeats 400000 in
theorem pX12_tells_3_3 {S : k_S} {B : Nat → Int32} {n p : Nat} {nb : Int32} (hac : S.1 2647 = nI p) (hbk : S.2.1 72 = B) (hran : S.1 2629 = nI n) (hn : n + 7 ≤ 24) (hpp : p < 50) (hB : B p = nI 3) (x : Int32) (hnb : nI p = nb) : Sp 9 0 0 MX12_tells [.ref 52, .int (nI 3), .int (x)] (hp S) (Rt (some (.int (((-((((x + nI 1) + nb) * nI 2))) - (((nI 1) ^^^ nb) * nI 3))))) (hp (mtr S n [2, 30, 10, 41, 1, 40, 11]))) := by
  refine Sp_of (by decide +kernel) (Nat.le_of_ble_eq_true rfl) ?_
  show AW none MX12_tells 9 0 0 0 [.ref 52, .int (nI 3), .int (x), .null] [] (hp S) _
  refine k_iload_n eX12_tells_0 rfl ?_
  refine k_iconst (v := nI 5) eX12_tells_1 (by decide) ?_
  refine k_icmp_neN 23 eX12_tells_2 (by decide) (by omega) (by omega) (fun c_2 => ?_) (fun c_2 => by exfalso; omega)
  refine k_iload_n eX12_tells_23 rfl ?_
  refine k_bipush (v := nI 7) eX12_tells_24 (by decide) ?_
  refine k_icmp_neN 47 eX12_tells_26 (by decide) (by omega) (by omega) (fun c_26 => ?_) (fun c_26 => by exfalso; omega)
  refine k_iload_n eX12_tells_47 rfl ?_
  refine k_if_leN 61 eX12_tells_48 (by decide) (by omega) (fun c_48 => by exfalso; omega) (fun c_48 => ?_)
  refine k_aload_n eX12_tells_51 rfl ?_
  refine k_iload_n eX12_tells_52 rfl ?_
  refine cS1 (M' := MX12_above) eX12_tells_53 mX12_311 wX12_above sX12_above rfl (pX12_above3) (by decide) (Nat.le_of_ble_eq_true rfl) ?_
  refine k_iload_n eX12_tells_56 rfl ?_
  refine cV1 (M' := MX12_tells) eX12_tells_57 mX12_326 wX12_tells vX12_tells ⟨_, _, _, rfl, rfl, rfl⟩ rfl (pX12_tells_3_2 (S := S) (n := n) (p := p) (nb := nb) hac hbk hran (by omega) hpp hB (x) hnb) (by decide) (Nat.le_of_ble_eq_true rfl) ?_
  
  refine k_ireturn eX12_tells_60 rfl rfl ?_
  exact ⟨rfl, rfl⟩
set_option maxHeartbeats 400000 in
theorem pX12_worksIn_4_0 {S : k_S} {B : Nat → Int32} {n p : Nat} {nb : Int32} (hac : S.1 2647 = nI p) (hbk : S.2.1 72 = B) (hran : S.1 2629 = nI n) (hn : n + 1 ≤ 24) (hpp : p < 50) (hB : B p = nI 4) (x : Int32) (hnb : nI p = nb) : Sp 1 0 0 MX12_worksIn [.ref 52, .int (nI 0), .int (x)] (hp S) (Rt (some (.int ((x + nb)))) (hp (mtr S n [1]))) := by
  refine Sp_of (by decide +kernel) (Nat.le_of_ble_eq_true rfl) ?_
  show AW none MX12_worksIn 1 0 0 0 [.ref 52, .int (nI 0), .int (x)] [] (hp S) _
  refine k_iload_n eX12_worksIn_0 rfl ?_
  refine k_iconst (v := nI 1) eX12_worksIn_1 (by decide) ?_
  refine k_icmp_neN 23 eX12_worksIn_2 (by decide) (by omega) (by omega) (fun c_2 => ?_) (fun c_2 => by exfalso; omega)
  refine k_iload_n eX12_worksIn_23 rfl ?_
  refine k_iconst (v := nI 3) eX12_worksIn_24 (by decide) ?_
  refine k_icmp_neN 46 eX12_worksIn_25 (by decide) (by omega) (by omega) (fun c_25 => ?_) (fun c_25 => by exfalso; omega)
  refine k_iload_n eX12_worksIn_46 rfl ?_
  refine k_bipush (v := nI 6) eX12_worksIn_47 (by decide) ?_
  refine k_icmp_neN 70 eX12_worksIn_49 (by decide) (by omega) (by omega) (fun c_49 => ?_) (fun c_49 => by exfalso; omega)
  refine k_iload_n eX12_worksIn_70 rfl ?_
  refine k_if_leN 84 eX12_worksIn_71 (by decide) (by omega) (fun c_71 => ?_) (fun c_71 => by exfalso; omega)
  refine k_aload_n eX12_worksIn_84 rfl ?_
  refine k_iconst (v := nI 1) eX12_worksIn_85 (by decide) ?_
  refine cV0 (M' := MX12_runs) eX12_worksIn_86 mX12_308 wX12_runs vX12_runs ⟨_, _, _, rfl, rfl, rfl⟩ rfl (pX12_runs (S := S) (n := n) hran (by omega) 1) (by decide) (Nat.le_of_ble_eq_true rfl) ?_
  
  refine k_iload_n eX12_worksIn_89 rfl ?_
  refine k_aload_n eX12_worksIn_90 rfl ?_
  refine GX12_317 eX12_worksIn_91 rfl ?_
  refine k_topi (nI p) (show ((mtr S n [1])).1 2647 = nI p from mtr_1 (by decide) hac) ?_
  refine k_topi (nb) hnb ?_
  refine k_iadd eX12_worksIn_94 ?_
  refine k_ireturn eX12_worksIn_95 rfl rfl ?_
  exact ⟨rfl, rfl⟩
set_option maxHeartbeats 400000 in
theorem pX12_worksIn_4_4 {S : k_S} {B : Nat → Int32} {n p : Nat} {nb : Int32} (hac : S.1 2647 = nI p) (hbk : S.2.1 72 = B) (hran : S.1 2629 = nI n) (hn : n + 1 ≤ 24) (hpp : p < 50) (hB : B p = nI 4) (x : Int32) (hnb : nI p = nb) : Sp 2 0 0 MX12_worksIn [.ref 52, .int (nI 4), .int (x)] (hp S) (Rt (some (.int ((x + nb)))) (hp (mtr S n [1]))) := by
  refine Sp_of (by decide +kernel) (Nat.le_of_ble_eq_true rfl) ?_
  show AW none MX12_worksIn 2 0 0 0 [.ref 52, .int (nI 4), .int (x)] [] (hp S) _
  refine k_iload_n eX12_worksIn_0 rfl ?_
  refine k_iconst (v := nI 1) eX12_worksIn_1 (by decide) ?_
  refine k_icmp_neN 23 eX12_worksIn_2 (by decide) (by omega) (by omega) (fun c_2 => ?_) (fun c_2 => by exfalso; omega)
  refine k_iload_n eX12_worksIn_23 rfl ?_
  refine k_iconst (v := nI 3) eX12_worksIn_24 (by decide) ?_
  refine k_icmp_neN 46 eX12_worksIn_25 (by decide) (by omega) (by omega) (fun c_25 => ?_) (fun c_25 => by exfalso; omega)
  refine k_iload_n eX12_worksIn_46 rfl ?_
  refine k_bipush (v := nI 6) eX12_worksIn_47 (by decide) ?_
  refine k_icmp_neN 70 eX12_worksIn_49 (by decide) (by omega) (by omega) (fun c_49 => ?_) (fun c_49 => by exfalso; omega)
  refine k_iload_n eX12_worksIn_70 rfl ?_
  refine k_if_leN 84 eX12_worksIn_71 (by decide) (by omega) (fun c_71 => by exfalso; omega) (fun c_71 => ?_)
  refine k_aload_n eX12_worksIn_74 rfl ?_
  refine k_iload_n eX12_worksIn_75 rfl ?_
  refine cS1 (M' := MX12_above) eX12_worksIn_76 mX12_311 wX12_above sX12_above rfl (pX12_above4) (by decide) (Nat.le_of_ble_eq_true rfl) ?_
  refine k_iload_n eX12_worksIn_79 rfl ?_
  refine cV1 (M' := MX12_worksIn) eX12_worksIn_80 mX12_314 wX12_worksIn vX12_worksIn ⟨_, _, _, rfl, rfl, rfl⟩ rfl (pX12_worksIn_4_0 (S := S) (n := n) (p := p) (nb := nb) hac hbk hran (by omega) hpp hB (x) hnb) (by decide) (Nat.le_of_ble_eq_true rfl) ?_
  
  refine k_ireturn eX12_worksIn_83 rfl rfl ?_
  exact ⟨rfl, rfl⟩
set_option maxHeartbeats 400000 in
theorem pX12_restsIn_4_0 {S : k_S} {B : Nat → Int32} {n p : Nat} {nb : Int32} (hac : S.1 2647 = nI p) (hbk : S.2.1 72 = B) (hran : S.1 2629 = nI n) (hn : n + 2 ≤ 24) (hpp : p < 50) (hB : B p = nI 4) (x : Int32) (hnb : nI p = nb) : Sp 3 0 0 MX12_restsIn [.ref 52, .int (nI 0), .int (x)] (hp S) (Rt (some (.int (((x + nb) * nI 2)))) (hp (mtr S n [10, 1]))) := by
  refine Sp_of (by decide +kernel) (Nat.le_of_ble_eq_true rfl) ?_
  show AW none MX12_restsIn 3 0 0 0 [.ref 52, .int (nI 0), .int (x), .null] [] (hp S) _
  refine k_iload_n eX12_restsIn_0 rfl ?_
  refine k_iconst (v := nI 2) eX12_restsIn_1 (by decide) ?_
  refine k_icmp_neN 22 eX12_restsIn_2 (by decide) (by omega) (by omega) (fun c_2 => ?_) (fun c_2 => by exfalso; omega)
  refine k_iload_n eX12_restsIn_22 rfl ?_
  refine k_bipush (v := nI 7) eX12_restsIn_23 (by decide) ?_
  refine k_icmp_neN 61 eX12_restsIn_25 (by decide) (by omega) (by omega) (fun c_25 => ?_) (fun c_25 => by exfalso; omega)
  refine k_iload_n eX12_restsIn_61 rfl ?_
  refine k_if_leN 75 eX12_restsIn_62 (by decide) (by omega) (fun c_62 => ?_) (fun c_62 => by exfalso; omega)
  refine k_aload_n eX12_restsIn_75 rfl ?_
  refine k_bipush (v := nI 10) eX12_restsIn_76 (by decide) ?_
  refine cV0 (M' := MX12_runs) eX12_restsIn_78 mX12_308 wX12_runs vX12_runs ⟨_, _, _, rfl, rfl, rfl⟩ rfl (pX12_runs (S := S) (n := n) hran (by omega) 10) (by decide) (Nat.le_of_ble_eq_true rfl) ?_
  
  refine k_aload_n eX12_restsIn_81 rfl ?_
  refine k_aload_n eX12_restsIn_82 rfl ?_
  refine GX12_74 eX12_restsIn_83 rfl ?_
  refine k_aload_n eX12_restsIn_86 rfl ?_
  refine GX12_317 eX12_restsIn_87 rfl ?_
  refine k_topi (nI p) (show ((mtr S n [10])).1 2647 = nI p from mtr_1 (by decide) hac) ?_
  refine k_ialdN (j := p) eX12_restsIn_90 (ar72 _) (by omega) (Nat.le_of_ble_eq_true rfl) ?_
  refine k_topi (nI 4) ((congrFun (show (mtr S n [10]).2.1 72 = B from mtr_2 (by decide) hbk) p).trans hB) ?_
  refine k_iload_n eX12_restsIn_91 rfl ?_
  refine cV1 (M' := MX12_worksIn) eX12_restsIn_92 mX12_314 wX12_worksIn vX12_worksIn ⟨_, _, _, rfl, rfl, rfl⟩ rfl (pX12_worksIn_4_4 (S := (mtr S n [10])) (n := (n + 1)) (p := p) (nb := nb) (mtr_1 (by decide) hac) (mtr_2 (by decide) hbk) (mtr_R hran) (by omega) hpp hB (x) hnb) (by decide) (Nat.le_of_ble_eq_true rfl) ?_
  refine k_heap (h2 := hp (mtr S n [10, 1])) (congrArg hp (mtr_app [10] S n [1]).symm) ?_
  refine k_iconst (v := nI 2) eX12_restsIn_95 (by decide) ?_
  refine k_imul eX12_restsIn_96 ?_
  refine k_ireturn eX12_restsIn_97 rfl rfl ?_
  exact ⟨rfl, rfl⟩
set_option maxHeartbeats 400000 in
theorem pX12_restsIn_4_4 {S : k_S} {B : Nat → Int32} {n p : Nat} {nb : Int32} (hac : S.1 2647 = nI p) (hbk : S.2.1 72 = B) (hran : S.1 2629 = nI n) (hn : n + 2 ≤ 24) (hpp : p < 50) (hB : B p = nI 4) (x : Int32) (hnb : nI p = nb) : Sp 4 0 0 MX12_restsIn [.ref 52, .int (nI 4), .int (x)] (hp S) (Rt (some (.int (((x + nb) * nI 2)))) (hp (mtr S n [10, 1]))) := by
  refine Sp_of (by decide +kernel) (Nat.le_of_ble_eq_true rfl) ?_
  show AW none MX12_restsIn 4 0 0 0 [.ref 52, .int (nI 4), .int (x), .null] [] (hp S) _
  refine k_iload_n eX12_restsIn_0 rfl ?_
  refine k_iconst (v := nI 2) eX12_restsIn_1 (by decide) ?_
  refine k_icmp_neN 22 eX12_restsIn_2 (by decide) (by omega) (by omega) (fun c_2 => ?_) (fun c_2 => by exfalso; omega)
  refine k_iload_n eX12_restsIn_22 rfl ?_
  refine k_bipush (v := nI 7) eX12_restsIn_23 (by decide) ?_
  refine k_icmp_neN 61 eX12_restsIn_25 (by decide) (by omega) (by omega) (fun c_25 => ?_) (fun c_25 => by exfalso; omega)
  refine k_iload_n eX12_restsIn_61 rfl ?_
  refine k_if_leN 75 eX12_restsIn_62 (by decide) (by omega) (fun c_62 => by exfalso; omega) (fun c_62 => ?_)
  refine k_aload_n eX12_restsIn_65 rfl ?_
  refine k_iload_n eX12_restsIn_66 rfl ?_
  refine cS1 (M' := MX12_above) eX12_restsIn_67 mX12_311 wX12_above sX12_above rfl (pX12_above4) (by decide) (Nat.le_of_ble_eq_true rfl) ?_
  refine k_iload_n eX12_restsIn_70 rfl ?_
  refine cV1 (M' := MX12_restsIn) eX12_restsIn_71 mX12_320 wX12_restsIn vX12_restsIn ⟨_, _, _, rfl, rfl, rfl⟩ rfl (pX12_restsIn_4_0 (S := S) (n := n) (p := p) (nb := nb) hac hbk hran (by omega) hpp hB (x) hnb) (by decide) (Nat.le_of_ble_eq_true rfl) ?_
  
  refine k_ireturn eX12_restsIn_74 rfl rfl ?_
  exact ⟨rfl, rfl⟩
set_option maxHeartbeats 400000 in
theorem pX12_countsIn_4_0 {S : k_S} {B : Nat → Int32} {n p : Nat} {nb : Int32} (hac : S.1 2647 = nI p) (hbk : S.2.1 72 = B) (hran : S.1 2629 = nI n) (hn : n + 1 ≤ 24) (hpp : p < 50) (hB : B p = nI 4) (x : Int32) (hnb : nI p = nb) : Sp 1 0 0 MX12_countsIn [.ref 52, .int (nI 0), .int (x)] (hp S) (Rt (some (.int ((x ^^^ nb)))) (hp (mtr S n [11]))) := by
  refine Sp_of (by decide +kernel) (Nat.le_of_ble_eq_true rfl) ?_
  show AW none MX12_countsIn 1 0 0 0 [.ref 52, .int (nI 0), .int (x), .null] [] (hp S) _
  refine k_iload_n eX12_countsIn_0 rfl ?_
  refine k_iconst (v := nI 3) eX12_countsIn_1 (by decide) ?_
  refine k_icmp_neN 23 eX12_countsIn_2 (by decide) (by omega) (by omega) (fun c_2 => ?_) (fun c_2 => by exfalso; omega)
  refine k_iload_n eX12_countsIn_23 rfl ?_
  refine k_iconst (v := nI 4) eX12_countsIn_24 (by decide) ?_
  refine k_icmp_neN 61 eX12_countsIn_25 (by decide) (by omega) (by omega) (fun c_25 => ?_) (fun c_25 => by exfalso; omega)
  refine k_iload_n eX12_countsIn_61 rfl ?_
  refine k_if_leN 75 eX12_countsIn_62 (by decide) (by omega) (fun c_62 => ?_) (fun c_62 => by exfalso; omega)
  refine k_aload_n eX12_countsIn_75 rfl ?_
  refine k_bipush (v := nI 11) eX12_countsIn_76 (by decide) ?_
  refine cV0 (M' := MX12_runs) eX12_countsIn_78 mX12_308 wX12_runs vX12_runs ⟨_, _, _, rfl, rfl, rfl⟩ rfl (pX12_runs (S := S) (n := n) hran (by omega) 11) (by decide) (Nat.le_of_ble_eq_true rfl) ?_
  
  refine k_iload_n eX12_countsIn_81 rfl ?_
  refine k_aload_n eX12_countsIn_82 rfl ?_
  refine GX12_317 eX12_countsIn_83 rfl ?_
  refine k_topi (nI p) (show ((mtr S n [11])).1 2647 = nI p from mtr_1 (by decide) hac) ?_
  refine k_topi (nb) hnb ?_
  refine k_ixor eX12_countsIn_86 ?_
  refine k_ireturn eX12_countsIn_87 rfl rfl ?_
  exact ⟨rfl, rfl⟩
set_option maxHeartbeats 400000 in
theorem pX12_countsIn_4_4 {S : k_S} {B : Nat → Int32} {n p : Nat} {nb : Int32} (hac : S.1 2647 = nI p) (hbk : S.2.1 72 = B) (hran : S.1 2629 = nI n) (hn : n + 3 ≤ 24) (hpp : p < 50) (hB : B p = nI 4) (x : Int32) (hnb : nI p = nb) : Sp 3 0 0 MX12_countsIn [.ref 52, .int (nI 4), .int (x)] (hp S) (Rt (some (.int (((x ^^^ nb) - ((nI 2) + nb))))) (hp (mtr S n [50, 11, 1]))) := by
  refine Sp_of (by decide +kernel) (Nat.le_of_ble_eq_true rfl) ?_
  show AW none MX12_countsIn 3 0 0 0 [.ref 52, .int (nI 4), .int (x), .null] [] (hp S) _
  refine k_iload_n eX12_countsIn_0 rfl ?_
  refine k_iconst (v := nI 3) eX12_countsIn_1 (by decide) ?_
  refine k_icmp_neN 23 eX12_countsIn_2 (by decide) (by omega) (by omega) (fun c_2 => ?_) (fun c_2 => by exfalso; omega)
  refine k_iload_n eX12_countsIn_23 rfl ?_
  refine k_iconst (v := nI 4) eX12_countsIn_24 (by decide) ?_
  refine k_icmp_neN 61 eX12_countsIn_25 (by decide) (by omega) (by omega) (fun c_25 => by exfalso; omega) (fun c_25 => ?_)
  refine k_aload_n eX12_countsIn_28 rfl ?_
  refine k_bipush (v := nI 50) eX12_countsIn_29 (by decide) ?_
  refine cV0 (M' := MX12_runs) eX12_countsIn_31 mX12_308 wX12_runs vX12_runs ⟨_, _, _, rfl, rfl, rfl⟩ rfl (pX12_runs (S := S) (n := n) hran (by omega) 50) (by decide) (Nat.le_of_ble_eq_true rfl) ?_
  
  refine k_aload_n eX12_countsIn_34 rfl ?_
  refine k_iload_n eX12_countsIn_35 rfl ?_
  refine cS1 (M' := MX12_above) eX12_countsIn_36 mX12_311 wX12_above sX12_above rfl (pX12_above4) (by decide) (Nat.le_of_ble_eq_true rfl) ?_
  refine k_iload_n eX12_countsIn_39 rfl ?_
  refine cV1 (M' := MX12_countsIn) eX12_countsIn_40 mX12_323 wX12_countsIn vX12_countsIn ⟨_, _, _, rfl, rfl, rfl⟩ rfl (pX12_countsIn_4_0 (S := (mtr S n [50])) (n := (n + 1)) (p := p) (nb := nb) (mtr_1 (by decide) hac) (mtr_2 (by decide) hbk) (mtr_R hran) (by omega) hpp hB (x) hnb) (by decide) (Nat.le_of_ble_eq_true rfl) ?_
  refine k_heap (h2 := hp (mtr S n [50, 11])) (congrArg hp (mtr_app [50] S n [11]).symm) ?_
  refine k_istore_n (L2 := [_, _, _, _]) eX12_countsIn_43 (Nat.le_of_ble_eq_true rfl) rfl ?_
  refine k_iload_n eX12_countsIn_44 rfl ?_
  refine k_aload_n eX12_countsIn_45 rfl ?_
  refine k_aload_n eX12_countsIn_46 rfl ?_
  refine GX12_74 eX12_countsIn_47 rfl ?_
  refine k_aload_n eX12_countsIn_50 rfl ?_
  refine GX12_317 eX12_countsIn_51 rfl ?_
  refine k_topi (nI p) (show ((mtr S n [50, 11])).1 2647 = nI p from mtr_1 (by decide) hac) ?_
  refine k_ialdN (j := p) eX12_countsIn_54 (ar72 _) (by omega) (Nat.le_of_ble_eq_true rfl) ?_
  refine k_topi (nI 4) ((congrFun (show (mtr S n [50, 11]).2.1 72 = B from mtr_2 (by decide) hbk) p).trans hB) ?_
  refine k_iconst (v := nI 2) eX12_countsIn_55 (by decide) ?_
  refine cV1 (M' := MX12_worksIn) eX12_countsIn_56 mX12_314 wX12_worksIn vX12_worksIn ⟨_, _, _, rfl, rfl, rfl⟩ rfl (pX12_worksIn_4_4 (S := (mtr S n [50, 11])) (n := (n + 2)) (p := p) (nb := nb) (mtr_1 (by decide) hac) (mtr_2 (by decide) hbk) (mtr_R hran) (by omega) hpp hB (nI 2) hnb) (by decide) (Nat.le_of_ble_eq_true rfl) ?_
  refine k_heap (h2 := hp (mtr S n [50, 11, 1])) (congrArg hp (mtr_app [50, 11] S n [1]).symm) ?_
  refine k_isub eX12_countsIn_59 ?_
  refine k_ireturn eX12_countsIn_60 rfl rfl ?_
  exact ⟨rfl, rfl⟩
set_option maxHeartbeats 400000 in
theorem pX12_tells_4_0 {S : k_S} {B : Nat → Int32} {n p : Nat} {nb : Int32} (hac : S.1 2647 = nI p) (hbk : S.2.1 72 = B) (hran : S.1 2629 = nI n) (hn : n + 6 ≤ 24) (hpp : p < 50) (hB : B p = nI 4) (x : Int32) (hnb : nI p = nb) : Sp 5 0 0 MX12_tells [.ref 52, .int (nI 0), .int (x)] (hp S) (Rt (some (.int ((((x + nb) * nI 2) - (((nI 1) ^^^ nb) - ((nI 2) + nb)))))) (hp (mtr S n [2, 10, 1, 50, 11, 1]))) := by
  refine Sp_of (by decide +kernel) (Nat.le_of_ble_eq_true rfl) ?_
  show AW none MX12_tells 5 0 0 0 [.ref 52, .int (nI 0), .int (x), .null] [] (hp S) _
  refine k_iload_n eX12_tells_0 rfl ?_
  refine k_iconst (v := nI 5) eX12_tells_1 (by decide) ?_
  refine k_icmp_neN 23 eX12_tells_2 (by decide) (by omega) (by omega) (fun c_2 => ?_) (fun c_2 => by exfalso; omega)
  refine k_iload_n eX12_tells_23 rfl ?_
  refine k_bipush (v := nI 7) eX12_tells_24 (by decide) ?_
  refine k_icmp_neN 47 eX12_tells_26 (by decide) (by omega) (by omega) (fun c_26 => ?_) (fun c_26 => by exfalso; omega)
  refine k_iload_n eX12_tells_47 rfl ?_
  refine k_if_leN 61 eX12_tells_48 (by decide) (by omega) (fun c_48 => ?_) (fun c_48 => by exfalso; omega)
  refine k_aload_n eX12_tells_61 rfl ?_
  refine k_iconst (v := nI 2) eX12_tells_62 (by decide) ?_
  refine cV0 (M' := MX12_runs) eX12_tells_63 mX12_308 wX12_runs vX12_runs ⟨_, _, _, rfl, rfl, rfl⟩ rfl (pX12_runs (S := S) (n := n) hran (by omega) 2) (by decide) (Nat.le_of_ble_eq_true rfl) ?_
  
  refine k_aload_n eX12_tells_66 rfl ?_
  refine k_aload_n eX12_tells_67 rfl ?_
  refine GX12_74 eX12_tells_68 rfl ?_
  refine k_aload_n eX12_tells_71 rfl ?_
  refine GX12_317 eX12_tells_72 rfl ?_
  refine k_topi (nI p) (show ((mtr S n [2])).1 2647 = nI p from mtr_1 (by decide) hac) ?_
  refine k_ialdN (j := p) eX12_tells_75 (ar72 _) (by omega) (Nat.le_of_ble_eq_true rfl) ?_
  refine k_topi (nI 4) ((congrFun (show (mtr S n [2]).2.1 72 = B from mtr_2 (by decide) hbk) p).trans hB) ?_
  refine k_iload_n eX12_tells_76 rfl ?_
  refine cV1 (M' := MX12_restsIn) eX12_tells_77 mX12_320 wX12_restsIn vX12_restsIn ⟨_, _, _, rfl, rfl, rfl⟩ rfl (pX12_restsIn_4_4 (S := (mtr S n [2])) (n := (n + 1)) (p := p) (nb := nb) (mtr_1 (by decide) hac) (mtr_2 (by decide) hbk) (mtr_R hran) (by omega) hpp hB (x) hnb) (by decide) (Nat.le_of_ble_eq_true rfl) ?_
  refine k_heap (h2 := hp (mtr S n [2, 10, 1])) (congrArg hp (mtr_app [2] S n [10, 1]).symm) ?_
  refine k_istore_n (L2 := [_, _, _, _]) eX12_tells_80 (Nat.le_of_ble_eq_true rfl) rfl ?_
  refine k_iload_n eX12_tells_81 rfl ?_
  refine k_aload_n eX12_tells_82 rfl ?_
  refine k_aload_n eX12_tells_83 rfl ?_
  refine GX12_74 eX12_tells_84 rfl ?_
  refine k_aload_n eX12_tells_87 rfl ?_
  refine GX12_317 eX12_tells_88 rfl ?_
  refine k_topi (nI p) (show ((mtr S n [2, 10, 1])).1 2647 = nI p from mtr_1 (by decide) hac) ?_
  refine k_ialdN (j := p) eX12_tells_91 (ar72 _) (by omega) (Nat.le_of_ble_eq_true rfl) ?_
  refine k_topi (nI 4) ((congrFun (show (mtr S n [2, 10, 1]).2.1 72 = B from mtr_2 (by decide) hbk) p).trans hB) ?_
  refine k_iconst (v := nI 1) eX12_tells_92 (by decide) ?_
  refine cV1 (M' := MX12_countsIn) eX12_tells_93 mX12_323 wX12_countsIn vX12_countsIn ⟨_, _, _, rfl, rfl, rfl⟩ rfl (pX12_countsIn_4_4 (S := (mtr S n [2, 10, 1])) (n := (n + 3)) (p := p) (nb := nb) (mtr_1 (by decide) hac) (mtr_2 (by decide) hbk) (mtr_R hran) (by omega) hpp hB (nI 1) hnb) (by decide) (Nat.le_of_ble_eq_true rfl) ?_
  refine k_heap (h2 := hp (mtr S n [2, 10, 1, 50, 11, 1])) (congrArg hp (mtr_app [2, 10, 1] S n [50, 11, 1]).symm) ?_
  refine k_isub eX12_tells_96 ?_
  refine k_ireturn eX12_tells_97 rfl rfl ?_
  exact ⟨rfl, rfl⟩
set_option maxHeartbeats 400000 in
theorem pX12_tells_4_4 {S : k_S} {B : Nat → Int32} {n p : Nat} {nb : Int32} (hac : S.1 2647 = nI p) (hbk : S.2.1 72 = B) (hran : S.1 2629 = nI n) (hn : n + 6 ≤ 24) (hpp : p < 50) (hB : B p = nI 4) (x : Int32) (hnb : nI p = nb) : Sp 6 0 0 MX12_tells [.ref 52, .int (nI 4), .int (x)] (hp S) (Rt (some (.int ((((x + nb) * nI 2) - (((nI 1) ^^^ nb) - ((nI 2) + nb)))))) (hp (mtr S n [2, 10, 1, 50, 11, 1]))) := by
  refine Sp_of (by decide +kernel) (Nat.le_of_ble_eq_true rfl) ?_
  show AW none MX12_tells 6 0 0 0 [.ref 52, .int (nI 4), .int (x), .null] [] (hp S) _
  refine k_iload_n eX12_tells_0 rfl ?_
  refine k_iconst (v := nI 5) eX12_tells_1 (by decide) ?_
  refine k_icmp_neN 23 eX12_tells_2 (by decide) (by omega) (by omega) (fun c_2 => ?_) (fun c_2 => by exfalso; omega)
  refine k_iload_n eX12_tells_23 rfl ?_
  refine k_bipush (v := nI 7) eX12_tells_24 (by decide) ?_
  refine k_icmp_neN 47 eX12_tells_26 (by decide) (by omega) (by omega) (fun c_26 => ?_) (fun c_26 => by exfalso; omega)
  refine k_iload_n eX12_tells_47 rfl ?_
  refine k_if_leN 61 eX12_tells_48 (by decide) (by omega) (fun c_48 => by exfalso; omega) (fun c_48 => ?_)
  refine k_aload_n eX12_tells_51 rfl ?_
  refine k_iload_n eX12_tells_52 rfl ?_
  refine cS1 (M' := MX12_above) eX12_tells_53 mX12_311 wX12_above sX12_above rfl (pX12_above4) (by decide) (Nat.le_of_ble_eq_true rfl) ?_
  refine k_iload_n eX12_tells_56 rfl ?_
  refine cV1 (M' := MX12_tells) eX12_tells_57 mX12_326 wX12_tells vX12_tells ⟨_, _, _, rfl, rfl, rfl⟩ rfl (pX12_tells_4_0 (S := S) (n := n) (p := p) (nb := nb) hac hbk hran (by omega) hpp hB (x) hnb) (by decide) (Nat.le_of_ble_eq_true rfl) ?_
  
  refine k_ireturn eX12_tells_60 rfl rfl ?_
  exact ⟨rfl, rfl⟩
set_option maxHeartbeats 400000 in
theorem pX12_worksIn_5_0 {S : k_S} {B : Nat → Int32} {n p : Nat} {nb : Int32} (hac : S.1 2647 = nI p) (hbk : S.2.1 72 = B) (hran : S.1 2629 = nI n) (hn : n + 1 ≤ 24) (hpp : p < 50) (hB : B p = nI 5) (x : Int32) (hnb : nI p = nb) : Sp 1 0 0 MX12_worksIn [.ref 52, .int (nI 0), .int (x)] (hp S) (Rt (some (.int ((x + nb)))) (hp (mtr S n [1]))) := by
  refine Sp_of (by decide +kernel) (Nat.le_of_ble_eq_true rfl) ?_
  show AW none MX12_worksIn 1 0 0 0 [.ref 52, .int (nI 0), .int (x)] [] (hp S) _
  refine k_iload_n eX12_worksIn_0 rfl ?_
  refine k_iconst (v := nI 1) eX12_worksIn_1 (by decide) ?_
  refine k_icmp_neN 23 eX12_worksIn_2 (by decide) (by omega) (by omega) (fun c_2 => ?_) (fun c_2 => by exfalso; omega)
  refine k_iload_n eX12_worksIn_23 rfl ?_
  refine k_iconst (v := nI 3) eX12_worksIn_24 (by decide) ?_
  refine k_icmp_neN 46 eX12_worksIn_25 (by decide) (by omega) (by omega) (fun c_25 => ?_) (fun c_25 => by exfalso; omega)
  refine k_iload_n eX12_worksIn_46 rfl ?_
  refine k_bipush (v := nI 6) eX12_worksIn_47 (by decide) ?_
  refine k_icmp_neN 70 eX12_worksIn_49 (by decide) (by omega) (by omega) (fun c_49 => ?_) (fun c_49 => by exfalso; omega)
  refine k_iload_n eX12_worksIn_70 rfl ?_
  refine k_if_leN 84 eX12_worksIn_71 (by decide) (by omega) (fun c_71 => ?_) (fun c_71 => by exfalso; omega)
  refine k_aload_n eX12_worksIn_84 rfl ?_
  refine k_iconst (v := nI 1) eX12_worksIn_85 (by decide) ?_
  refine cV0 (M' := MX12_runs) eX12_worksIn_86 mX12_308 wX12_runs vX12_runs ⟨_, _, _, rfl, rfl, rfl⟩ rfl (pX12_runs (S := S) (n := n) hran (by omega) 1) (by decide) (Nat.le_of_ble_eq_true rfl) ?_
  
  refine k_iload_n eX12_worksIn_89 rfl ?_
  refine k_aload_n eX12_worksIn_90 rfl ?_
  refine GX12_317 eX12_worksIn_91 rfl ?_
  refine k_topi (nI p) (show ((mtr S n [1])).1 2647 = nI p from mtr_1 (by decide) hac) ?_
  refine k_topi (nb) hnb ?_
  refine k_iadd eX12_worksIn_94 ?_
  refine k_ireturn eX12_worksIn_95 rfl rfl ?_
  exact ⟨rfl, rfl⟩
set_option maxHeartbeats 400000 in
theorem pX12_worksIn_5_1 {S : k_S} {B : Nat → Int32} {n p : Nat} {nb : Int32} (hac : S.1 2647 = nI p) (hbk : S.2.1 72 = B) (hran : S.1 2629 = nI n) (hn : n + 2 ≤ 24) (hpp : p < 50) (hB : B p = nI 5) (x : Int32) (hnb : nI p = nb) : Sp 2 0 0 MX12_worksIn [.ref 52, .int (nI 1), .int (x)] (hp S) (Rt (some (.int (((x + nb) + nI 3)))) (hp (mtr S n [20, 1]))) := by
  refine Sp_of (by decide +kernel) (Nat.le_of_ble_eq_true rfl) ?_
  show AW none MX12_worksIn 2 0 0 0 [.ref 52, .int (nI 1), .int (x)] [] (hp S) _
  refine k_iload_n eX12_worksIn_0 rfl ?_
  refine k_iconst (v := nI 1) eX12_worksIn_1 (by decide) ?_
  refine k_icmp_neN 23 eX12_worksIn_2 (by decide) (by omega) (by omega) (fun c_2 => by exfalso; omega) (fun c_2 => ?_)
  refine k_aload_n eX12_worksIn_5 rfl ?_
  refine k_bipush (v := nI 20) eX12_worksIn_6 (by decide) ?_
  refine cV0 (M' := MX12_runs) eX12_worksIn_8 mX12_308 wX12_runs vX12_runs ⟨_, _, _, rfl, rfl, rfl⟩ rfl (pX12_runs (S := S) (n := n) hran (by omega) 20) (by decide) (Nat.le_of_ble_eq_true rfl) ?_
  
  refine k_aload_n eX12_worksIn_11 rfl ?_
  refine k_iload_n eX12_worksIn_12 rfl ?_
  refine cS1 (M' := MX12_above) eX12_worksIn_13 mX12_311 wX12_above sX12_above rfl (pX12_above1) (by decide) (Nat.le_of_ble_eq_true rfl) ?_
  refine k_iload_n eX12_worksIn_16 rfl ?_
  refine cV1 (M' := MX12_worksIn) eX12_worksIn_17 mX12_314 wX12_worksIn vX12_worksIn ⟨_, _, _, rfl, rfl, rfl⟩ rfl (pX12_worksIn_5_0 (S := (mtr S n [20])) (n := (n + 1)) (p := p) (nb := nb) (mtr_1 (by decide) hac) (mtr_2 (by decide) hbk) (mtr_R hran) (by omega) hpp hB (x) hnb) (by decide) (Nat.le_of_ble_eq_true rfl) ?_
  refine k_heap (h2 := hp (mtr S n [20, 1])) (congrArg hp (mtr_app [20] S n [1]).symm) ?_
  refine k_iconst (v := nI 3) eX12_worksIn_20 (by decide) ?_
  refine k_iadd eX12_worksIn_21 ?_
  refine k_ireturn eX12_worksIn_22 rfl rfl ?_
  exact ⟨rfl, rfl⟩
set_option maxHeartbeats 400000 in
theorem pX12_worksIn_5_5 {S : k_S} {B : Nat → Int32} {n p : Nat} {nb : Int32} (hac : S.1 2647 = nI p) (hbk : S.2.1 72 = B) (hran : S.1 2629 = nI n) (hn : n + 2 ≤ 24) (hpp : p < 50) (hB : B p = nI 5) (x : Int32) (hnb : nI p = nb) : Sp 3 0 0 MX12_worksIn [.ref 52, .int (nI 5), .int (x)] (hp S) (Rt (some (.int (((x + nb) + nI 3)))) (hp (mtr S n [20, 1]))) := by
  refine Sp_of (by decide +kernel) (Nat.le_of_ble_eq_true rfl) ?_
  show AW none MX12_worksIn 3 0 0 0 [.ref 52, .int (nI 5), .int (x)] [] (hp S) _
  refine k_iload_n eX12_worksIn_0 rfl ?_
  refine k_iconst (v := nI 1) eX12_worksIn_1 (by decide) ?_
  refine k_icmp_neN 23 eX12_worksIn_2 (by decide) (by omega) (by omega) (fun c_2 => ?_) (fun c_2 => by exfalso; omega)
  refine k_iload_n eX12_worksIn_23 rfl ?_
  refine k_iconst (v := nI 3) eX12_worksIn_24 (by decide) ?_
  refine k_icmp_neN 46 eX12_worksIn_25 (by decide) (by omega) (by omega) (fun c_25 => ?_) (fun c_25 => by exfalso; omega)
  refine k_iload_n eX12_worksIn_46 rfl ?_
  refine k_bipush (v := nI 6) eX12_worksIn_47 (by decide) ?_
  refine k_icmp_neN 70 eX12_worksIn_49 (by decide) (by omega) (by omega) (fun c_49 => ?_) (fun c_49 => by exfalso; omega)
  refine k_iload_n eX12_worksIn_70 rfl ?_
  refine k_if_leN 84 eX12_worksIn_71 (by decide) (by omega) (fun c_71 => by exfalso; omega) (fun c_71 => ?_)
  refine k_aload_n eX12_worksIn_74 rfl ?_
  refine k_iload_n eX12_worksIn_75 rfl ?_
  refine cS1 (M' := MX12_above) eX12_worksIn_76 mX12_311 wX12_above sX12_above rfl (pX12_above5) (by decide) (Nat.le_of_ble_eq_true rfl) ?_
  refine k_iload_n eX12_worksIn_79 rfl ?_
  refine cV1 (M' := MX12_worksIn) eX12_worksIn_80 mX12_314 wX12_worksIn vX12_worksIn ⟨_, _, _, rfl, rfl, rfl⟩ rfl (pX12_worksIn_5_1 (S := S) (n := n) (p := p) (nb := nb) hac hbk hran (by omega) hpp hB (x) hnb) (by decide) (Nat.le_of_ble_eq_true rfl) ?_
  
  refine k_ireturn eX12_worksIn_83 rfl rfl ?_
  exact ⟨rfl, rfl⟩
set_option maxHeartbeats 400000 in
theorem pX12_restsIn_5_0 {S : k_S} {B : Nat → Int32} {n p : Nat} {nb : Int32} (hac : S.1 2647 = nI p) (hbk : S.2.1 72 = B) (hran : S.1 2629 = nI n) (hn : n + 3 ≤ 24) (hpp : p < 50) (hB : B p = nI 5) (x : Int32) (hnb : nI p = nb) : Sp 4 0 0 MX12_restsIn [.ref 52, .int (nI 0), .int (x)] (hp S) (Rt (some (.int ((((x + nb) + nI 3) * nI 2)))) (hp (mtr S n [10, 20, 1]))) := by
  refine Sp_of (by decide +kernel) (Nat.le_of_ble_eq_true rfl) ?_
  show AW none MX12_restsIn 4 0 0 0 [.ref 52, .int (nI 0), .int (x), .null] [] (hp S) _
  refine k_iload_n eX12_restsIn_0 rfl ?_
  refine k_iconst (v := nI 2) eX12_restsIn_1 (by decide) ?_
  refine k_icmp_neN 22 eX12_restsIn_2 (by decide) (by omega) (by omega) (fun c_2 => ?_) (fun c_2 => by exfalso; omega)
  refine k_iload_n eX12_restsIn_22 rfl ?_
  refine k_bipush (v := nI 7) eX12_restsIn_23 (by decide) ?_
  refine k_icmp_neN 61 eX12_restsIn_25 (by decide) (by omega) (by omega) (fun c_25 => ?_) (fun c_25 => by exfalso; omega)
  refine k_iload_n eX12_restsIn_61 rfl ?_
  refine k_if_leN 75 eX12_restsIn_62 (by decide) (by omega) (fun c_62 => ?_) (fun c_62 => by exfalso; omega)
  refine k_aload_n eX12_restsIn_75 rfl ?_
  refine k_bipush (v := nI 10) eX12_restsIn_76 (by decide) ?_
  refine cV0 (M' := MX12_runs) eX12_restsIn_78 mX12_308 wX12_runs vX12_runs ⟨_, _, _, rfl, rfl, rfl⟩ rfl (pX12_runs (S := S) (n := n) hran (by omega) 10) (by decide) (Nat.le_of_ble_eq_true rfl) ?_
  
  refine k_aload_n eX12_restsIn_81 rfl ?_
  refine k_aload_n eX12_restsIn_82 rfl ?_
  refine GX12_74 eX12_restsIn_83 rfl ?_
  refine k_aload_n eX12_restsIn_86 rfl ?_
  refine GX12_317 eX12_restsIn_87 rfl ?_
  refine k_topi (nI p) (show ((mtr S n [10])).1 2647 = nI p from mtr_1 (by decide) hac) ?_
  refine k_ialdN (j := p) eX12_restsIn_90 (ar72 _) (by omega) (Nat.le_of_ble_eq_true rfl) ?_
  refine k_topi (nI 5) ((congrFun (show (mtr S n [10]).2.1 72 = B from mtr_2 (by decide) hbk) p).trans hB) ?_
  refine k_iload_n eX12_restsIn_91 rfl ?_
  refine cV1 (M' := MX12_worksIn) eX12_restsIn_92 mX12_314 wX12_worksIn vX12_worksIn ⟨_, _, _, rfl, rfl, rfl⟩ rfl (pX12_worksIn_5_5 (S := (mtr S n [10])) (n := (n + 1)) (p := p) (nb := nb) (mtr_1 (by decide) hac) (mtr_2 (by decide) hbk) (mtr_R hran) (by omega) hpp hB (x) hnb) (by decide) (Nat.le_of_ble_eq_true rfl) ?_
  refine k_heap (h2 := hp (mtr S n [10, 20, 1])) (congrArg hp (mtr_app [10] S n [20, 1]).symm) ?_
  refine k_iconst (v := nI 2) eX12_restsIn_95 (by decide) ?_
  refine k_imul eX12_restsIn_96 ?_
  refine k_ireturn eX12_restsIn_97 rfl rfl ?_
  exact ⟨rfl, rfl⟩
set_option maxHeartbeats 400000 in
theorem pX12_restsIn_5_1 {S : k_S} {B : Nat → Int32} {n p : Nat} {nb : Int32} (hac : S.1 2647 = nI p) (hbk : S.2.1 72 = B) (hran : S.1 2629 = nI n) (hn : n + 3 ≤ 24) (hpp : p < 50) (hB : B p = nI 5) (x : Int32) (hnb : nI p = nb) : Sp 5 0 0 MX12_restsIn [.ref 52, .int (nI 1), .int (x)] (hp S) (Rt (some (.int ((((x + nb) + nI 3) * nI 2)))) (hp (mtr S n [10, 20, 1]))) := by
  refine Sp_of (by decide +kernel) (Nat.le_of_ble_eq_true rfl) ?_
  show AW none MX12_restsIn 5 0 0 0 [.ref 52, .int (nI 1), .int (x), .null] [] (hp S) _
  refine k_iload_n eX12_restsIn_0 rfl ?_
  refine k_iconst (v := nI 2) eX12_restsIn_1 (by decide) ?_
  refine k_icmp_neN 22 eX12_restsIn_2 (by decide) (by omega) (by omega) (fun c_2 => ?_) (fun c_2 => by exfalso; omega)
  refine k_iload_n eX12_restsIn_22 rfl ?_
  refine k_bipush (v := nI 7) eX12_restsIn_23 (by decide) ?_
  refine k_icmp_neN 61 eX12_restsIn_25 (by decide) (by omega) (by omega) (fun c_25 => ?_) (fun c_25 => by exfalso; omega)
  refine k_iload_n eX12_restsIn_61 rfl ?_
  refine k_if_leN 75 eX12_restsIn_62 (by decide) (by omega) (fun c_62 => by exfalso; omega) (fun c_62 => ?_)
  refine k_aload_n eX12_restsIn_65 rfl ?_
  refine k_iload_n eX12_restsIn_66 rfl ?_
  refine cS1 (M' := MX12_above) eX12_restsIn_67 mX12_311 wX12_above sX12_above rfl (pX12_above1) (by decide) (Nat.le_of_ble_eq_true rfl) ?_
  refine k_iload_n eX12_restsIn_70 rfl ?_
  refine cV1 (M' := MX12_restsIn) eX12_restsIn_71 mX12_320 wX12_restsIn vX12_restsIn ⟨_, _, _, rfl, rfl, rfl⟩ rfl (pX12_restsIn_5_0 (S := S) (n := n) (p := p) (nb := nb) hac hbk hran (by omega) hpp hB (x) hnb) (by decide) (Nat.le_of_ble_eq_true rfl) ?_
  
  refine k_ireturn eX12_restsIn_74 rfl rfl ?_
  exact ⟨rfl, rfl⟩
set_option maxHeartbeats 400000 in
theorem pX12_restsIn_5_5 {S : k_S} {B : Nat → Int32} {n p : Nat} {nb : Int32} (hac : S.1 2647 = nI p) (hbk : S.2.1 72 = B) (hran : S.1 2629 = nI n) (hn : n + 3 ≤ 24) (hpp : p < 50) (hB : B p = nI 5) (x : Int32) (hnb : nI p = nb) : Sp 6 0 0 MX12_restsIn [.ref 52, .int (nI 5), .int (x)] (hp S) (Rt (some (.int ((((x + nb) + nI 3) * nI 2)))) (hp (mtr S n [10, 20, 1]))) := by
  refine Sp_of (by decide +kernel) (Nat.le_of_ble_eq_true rfl) ?_
  show AW none MX12_restsIn 6 0 0 0 [.ref 52, .int (nI 5), .int (x), .null] [] (hp S) _
  refine k_iload_n eX12_restsIn_0 rfl ?_
  refine k_iconst (v := nI 2) eX12_restsIn_1 (by decide) ?_
  refine k_icmp_neN 22 eX12_restsIn_2 (by decide) (by omega) (by omega) (fun c_2 => ?_) (fun c_2 => by exfalso; omega)
  refine k_iload_n eX12_restsIn_22 rfl ?_
  refine k_bipush (v := nI 7) eX12_restsIn_23 (by decide) ?_
  refine k_icmp_neN 61 eX12_restsIn_25 (by decide) (by omega) (by omega) (fun c_25 => ?_) (fun c_25 => by exfalso; omega)
  refine k_iload_n eX12_restsIn_61 rfl ?_
  refine k_if_leN 75 eX12_restsIn_62 (by decide) (by omega) (fun c_62 => by exfalso; omega) (fun c_62 => ?_)
  refine k_aload_n eX12_restsIn_65 rfl ?_
  refine k_iload_n eX12_restsIn_66 rfl ?_
  refine cS1 (M' := MX12_above) eX12_restsIn_67 mX12_311 wX12_above sX12_above rfl (pX12_above5) (by decide) (Nat.le_of_ble_eq_true rfl) ?_
  refine k_iload_n eX12_restsIn_70 rfl ?_
  refine cV1 (M' := MX12_restsIn) eX12_restsIn_71 mX12_320 wX12_restsIn vX12_restsIn ⟨_, _, _, rfl, rfl, rfl⟩ rfl (pX12_restsIn_5_1 (S := S) (n := n) (p := p) (nb := nb) hac hbk hran (by omega) hpp hB (x) hnb) (by decide) (Nat.le_of_ble_eq_true rfl) ?_
  
  refine k_ireturn eX12_restsIn_74 rfl rfl ?_
  exact ⟨rfl, rfl⟩
set_option maxHeartbeats 400000 in
theorem pX12_countsIn_5_0 {S : k_S} {B : Nat → Int32} {n p : Nat} {nb : Int32} (hac : S.1 2647 = nI p) (hbk : S.2.1 72 = B) (hran : S.1 2629 = nI n) (hn : n + 1 ≤ 24) (hpp : p < 50) (hB : B p = nI 5) (x : Int32) (hnb : nI p = nb) : Sp 1 0 0 MX12_countsIn [.ref 52, .int (nI 0), .int (x)] (hp S) (Rt (some (.int ((x ^^^ nb)))) (hp (mtr S n [11]))) := by
  refine Sp_of (by decide +kernel) (Nat.le_of_ble_eq_true rfl) ?_
  show AW none MX12_countsIn 1 0 0 0 [.ref 52, .int (nI 0), .int (x), .null] [] (hp S) _
  refine k_iload_n eX12_countsIn_0 rfl ?_
  refine k_iconst (v := nI 3) eX12_countsIn_1 (by decide) ?_
  refine k_icmp_neN 23 eX12_countsIn_2 (by decide) (by omega) (by omega) (fun c_2 => ?_) (fun c_2 => by exfalso; omega)
  refine k_iload_n eX12_countsIn_23 rfl ?_
  refine k_iconst (v := nI 4) eX12_countsIn_24 (by decide) ?_
  refine k_icmp_neN 61 eX12_countsIn_25 (by decide) (by omega) (by omega) (fun c_25 => ?_) (fun c_25 => by exfalso; omega)
  refine k_iload_n eX12_countsIn_61 rfl ?_
  refine k_if_leN 75 eX12_countsIn_62 (by decide) (by omega) (fun c_62 => ?_) (fun c_62 => by exfalso; omega)
  refine k_aload_n eX12_countsIn_75 rfl ?_
  refine k_bipush (v := nI 11) eX12_countsIn_76 (by decide) ?_
  refine cV0 (M' := MX12_runs) eX12_countsIn_78 mX12_308 wX12_runs vX12_runs ⟨_, _, _, rfl, rfl, rfl⟩ rfl (pX12_runs (S := S) (n := n) hran (by omega) 11) (by decide) (Nat.le_of_ble_eq_true rfl) ?_
  
  refine k_iload_n eX12_countsIn_81 rfl ?_
  refine k_aload_n eX12_countsIn_82 rfl ?_
  refine GX12_317 eX12_countsIn_83 rfl ?_
  refine k_topi (nI p) (show ((mtr S n [11])).1 2647 = nI p from mtr_1 (by decide) hac) ?_
  refine k_topi (nb) hnb ?_
  refine k_ixor eX12_countsIn_86 ?_
  refine k_ireturn eX12_countsIn_87 rfl rfl ?_
  exact ⟨rfl, rfl⟩
set_option maxHeartbeats 400000 in
theorem pX12_countsIn_5_1 {S : k_S} {B : Nat → Int32} {n p : Nat} {nb : Int32} (hac : S.1 2647 = nI p) (hbk : S.2.1 72 = B) (hran : S.1 2629 = nI n) (hn : n + 1 ≤ 24) (hpp : p < 50) (hB : B p = nI 5) (x : Int32) (hnb : nI p = nb) : Sp 2 0 0 MX12_countsIn [.ref 52, .int (nI 1), .int (x)] (hp S) (Rt (some (.int ((x ^^^ nb)))) (hp (mtr S n [11]))) := by
  refine Sp_of (by decide +kernel) (Nat.le_of_ble_eq_true rfl) ?_
  show AW none MX12_countsIn 2 0 0 0 [.ref 52, .int (nI 1), .int (x), .null] [] (hp S) _
  refine k_iload_n eX12_countsIn_0 rfl ?_
  refine k_iconst (v := nI 3) eX12_countsIn_1 (by decide) ?_
  refine k_icmp_neN 23 eX12_countsIn_2 (by decide) (by omega) (by omega) (fun c_2 => ?_) (fun c_2 => by exfalso; omega)
  refine k_iload_n eX12_countsIn_23 rfl ?_
  refine k_iconst (v := nI 4) eX12_countsIn_24 (by decide) ?_
  refine k_icmp_neN 61 eX12_countsIn_25 (by decide) (by omega) (by omega) (fun c_25 => ?_) (fun c_25 => by exfalso; omega)
  refine k_iload_n eX12_countsIn_61 rfl ?_
  refine k_if_leN 75 eX12_countsIn_62 (by decide) (by omega) (fun c_62 => by exfalso; omega) (fun c_62 => ?_)
  refine k_aload_n eX12_countsIn_65 rfl ?_
  refine k_iload_n eX12_countsIn_66 rfl ?_
  refine cS1 (M' := MX12_above) eX12_countsIn_67 mX12_311 wX12_above sX12_above rfl (pX12_above1) (by decide) (Nat.le_of_ble_eq_true rfl) ?_
  refine k_iload_n eX12_countsIn_70 rfl ?_
  refine cV1 (M' := MX12_countsIn) eX12_countsIn_71 mX12_323 wX12_countsIn vX12_countsIn ⟨_, _, _, rfl, rfl, rfl⟩ rfl (pX12_countsIn_5_0 (S := S) (n := n) (p := p) (nb := nb) hac hbk hran (by omega) hpp hB (x) hnb) (by decide) (Nat.le_of_ble_eq_true rfl) ?_
  
  refine k_ireturn eX12_countsIn_74 rfl rfl ?_
  exact ⟨rfl, rfl⟩
set_option maxHeartbeats 400000 in
theorem pX12_countsIn_5_5 {S : k_S} {B : Nat → Int32} {n p : Nat} {nb : Int32} (hac : S.1 2647 = nI p) (hbk : S.2.1 72 = B) (hran : S.1 2629 = nI n) (hn : n + 1 ≤ 24) (hpp : p < 50) (hB : B p = nI 5) (x : Int32) (hnb : nI p = nb) : Sp 3 0 0 MX12_countsIn [.ref 52, .int (nI 5), .int (x)] (hp S) (Rt (some (.int ((x ^^^ nb)))) (hp (mtr S n [11]))) := by
  refine Sp_of (by decide +kernel) (Nat.le_of_ble_eq_true rfl) ?_
  show AW none MX12_countsIn 3 0 0 0 [.ref 52, .int (nI 5), .int (x), .null] [] (hp S) _
  refine k_iload_n eX12_countsIn_0 rfl ?_
  refine k_iconst (v := nI 3) eX12_countsIn_1 (by decide) ?_
  refine k_icmp_neN 23 eX12_countsIn_2 (by decide) (by omega) (by omega) (fun c_2 => ?_) (fun c_2 => by exfalso; omega)
  refine k_iload_n eX12_countsIn_23 rfl ?_
  refine k_iconst (v := nI 4) eX12_countsIn_24 (by decide) ?_
  refine k_icmp_neN 61 eX12_countsIn_25 (by decide) (by omega) (by omega) (fun c_25 => ?_) (fun c_25 => by exfalso; omega)
  refine k_iload_n eX12_countsIn_61 rfl ?_
  refine k_if_leN 75 eX12_countsIn_62 (by decide) (by omega) (fun c_62 => by exfalso; omega) (fun c_62 => ?_)
  refine k_aload_n eX12_countsIn_65 rfl ?_
  refine k_iload_n eX12_countsIn_66 rfl ?_
  refine cS1 (M' := MX12_above) eX12_countsIn_67 mX12_311 wX12_above sX12_above rfl (pX12_above5) (by decide) (Nat.le_of_ble_eq_true rfl) ?_
  refine k_iload_n eX12_countsIn_70 rfl ?_
  refine cV1 (M' := MX12_countsIn) eX12_countsIn_71 mX12_323 wX12_countsIn vX12_countsIn ⟨_, _, _, rfl, rfl, rfl⟩ rfl (pX12_countsIn_5_1 (S := S) (n := n) (p := p) (nb := nb) hac hbk hran (by omega) hpp hB (x) hnb) (by decide) (Nat.le_of_ble_eq_true rfl) ?_
  
  refine k_ireturn eX12_countsIn_74 rfl rfl ?_
  exact ⟨rfl, rfl⟩
set_option maxHeartbeats 400000 in
theorem pX12_tells_5_0 {S : k_S} {B : Nat → Int32} {n p : Nat} {nb : Int32} (hac : S.1 2647 = nI p) (hbk : S.2.1 72 = B) (hran : S.1 2629 = nI n) (hn : n + 5 ≤ 24) (hpp : p < 50) (hB : B p = nI 5) (x : Int32) (hnb : nI p = nb) : Sp 7 0 0 MX12_tells [.ref 52, .int (nI 0), .int (x)] (hp S) (Rt (some (.int (((((x + nb) + nI 3) * nI 2) - ((nI 1) ^^^ nb))))) (hp (mtr S n [2, 10, 20, 1, 11]))) := by
  refine Sp_of (by decide +kernel) (Nat.le_of_ble_eq_true rfl) ?_
  show AW none MX12_tells 7 0 0 0 [.ref 52, .int (nI 0), .int (x), .null] [] (hp S) _
  refine k_iload_n eX12_tells_0 rfl ?_
  refine k_iconst (v := nI 5) eX12_tells_1 (by decide) ?_
  refine k_icmp_neN 23 eX12_tells_2 (by decide) (by omega) (by omega) (fun c_2 => ?_) (fun c_2 => by exfalso; omega)
  refine k_iload_n eX12_tells_23 rfl ?_
  refine k_bipush (v := nI 7) eX12_tells_24 (by decide) ?_
  refine k_icmp_neN 47 eX12_tells_26 (by decide) (by omega) (by omega) (fun c_26 => ?_) (fun c_26 => by exfalso; omega)
  refine k_iload_n eX12_tells_47 rfl ?_
  refine k_if_leN 61 eX12_tells_48 (by decide) (by omega) (fun c_48 => ?_) (fun c_48 => by exfalso; omega)
  refine k_aload_n eX12_tells_61 rfl ?_
  refine k_iconst (v := nI 2) eX12_tells_62 (by decide) ?_
  refine cV0 (M' := MX12_runs) eX12_tells_63 mX12_308 wX12_runs vX12_runs ⟨_, _, _, rfl, rfl, rfl⟩ rfl (pX12_runs (S := S) (n := n) hran (by omega) 2) (by decide) (Nat.le_of_ble_eq_true rfl) ?_
  
  refine k_aload_n eX12_tells_66 rfl ?_
  refine k_aload_n eX12_tells_67 rfl ?_
  refine GX12_74 eX12_tells_68 rfl ?_
  refine k_aload_n eX12_tells_71 rfl ?_
  refine GX12_317 eX12_tells_72 rfl ?_
  refine k_topi (nI p) (show ((mtr S n [2])).1 2647 = nI p from mtr_1 (by decide) hac) ?_
  refine k_ialdN (j := p) eX12_tells_75 (ar72 _) (by omega) (Nat.le_of_ble_eq_true rfl) ?_
  refine k_topi (nI 5) ((congrFun (show (mtr S n [2]).2.1 72 = B from mtr_2 (by decide) hbk) p).trans hB) ?_
  refine k_iload_n eX12_tells_76 rfl ?_
  refine cV1 (M' := MX12_restsIn) eX12_tells_77 mX12_320 wX12_restsIn vX12_restsIn ⟨_, _, _, rfl, rfl, rfl⟩ rfl (pX12_restsIn_5_5 (S := (mtr S n [2])) (n := (n + 1)) (p := p) (nb := nb) (mtr_1 (by decide) hac) (mtr_2 (by decide) hbk) (mtr_R hran) (by omega) hpp hB (x) hnb) (by decide) (Nat.le_of_ble_eq_true rfl) ?_
  refine k_heap (h2 := hp (mtr S n [2, 10, 20, 1])) (congrArg hp (mtr_app [2] S n [10, 20, 1]).symm) ?_
  refine k_istore_n (L2 := [_, _, _, _]) eX12_tells_80 (Nat.le_of_ble_eq_true rfl) rfl ?_
  refine k_iload_n eX12_tells_81 rfl ?_
  refine k_aload_n eX12_tells_82 rfl ?_
  refine k_aload_n eX12_tells_83 rfl ?_
  refine GX12_74 eX12_tells_84 rfl ?_
  refine k_aload_n eX12_tells_87 rfl ?_
  refine GX12_317 eX12_tells_88 rfl ?_
  refine k_topi (nI p) (show ((mtr S n [2, 10, 20, 1])).1 2647 = nI p from mtr_1 (by decide) hac) ?_
  refine k_ialdN (j := p) eX12_tells_91 (ar72 _) (by omega) (Nat.le_of_ble_eq_true rfl) ?_
  refine k_topi (nI 5) ((congrFun (show (mtr S n [2, 10, 20, 1]).2.1 72 = B from mtr_2 (by decide) hbk) p).trans hB) ?_
  refine k_iconst (v := nI 1) eX12_tells_92 (by decide) ?_
  refine cV1 (M' := MX12_countsIn) eX12_tells_93 mX12_323 wX12_countsIn vX12_countsIn ⟨_, _, _, rfl, rfl, rfl⟩ rfl (pX12_countsIn_5_5 (S := (mtr S n [2, 10, 20, 1])) (n := (n + 4)) (p := p) (nb := nb) (mtr_1 (by decide) hac) (mtr_2 (by decide) hbk) (mtr_R hran) (by omega) hpp hB (nI 1) hnb) (by decide) (Nat.le_of_ble_eq_true rfl) ?_
  refine k_heap (h2 := hp (mtr S n [2, 10, 20, 1, 11])) (congrArg hp (mtr_app [2, 10, 20, 1] S n [11]).symm) ?_
  refine k_isub eX12_tells_96 ?_
  refine k_ireturn eX12_tells_97 rfl rfl ?_
  exact ⟨rfl, rfl⟩
set_option maxHeartbeats 400000 in
theorem pX12_tells_5_1 {S : k_S} {B : Nat → Int32} {n p : Nat} {nb : Int32} (hac : S.1 2647 = nI p) (hbk : S.2.1 72 = B) (hran : S.1 2629 = nI n) (hn : n + 5 ≤ 24) (hpp : p < 50) (hB : B p = nI 5) (x : Int32) (hnb : nI p = nb) : Sp 8 0 0 MX12_tells [.ref 52, .int (nI 1), .int (x)] (hp S) (Rt (some (.int (((((x + nb) + nI 3) * nI 2) - ((nI 1) ^^^ nb))))) (hp (mtr S n [2, 10, 20, 1, 11]))) := by
  refine Sp_of (by decide +kernel) (Nat.le_of_ble_eq_true rfl) ?_
  show AW none MX12_tells 8 0 0 0 [.ref 52, .int (nI 1), .int (x), .null] [] (hp S) _
  refine k_iload_n eX12_tells_0 rfl ?_
  refine k_iconst (v := nI 5) eX12_tells_1 (by decide) ?_
  refine k_icmp_neN 23 eX12_tells_2 (by decide) (by omega) (by omega) (fun c_2 => ?_) (fun c_2 => by exfalso; omega)
  refine k_iload_n eX12_tells_23 rfl ?_
  refine k_bipush (v := nI 7) eX12_tells_24 (by decide) ?_
  refine k_icmp_neN 47 eX12_tells_26 (by decide) (by omega) (by omega) (fun c_26 => ?_) (fun c_26 => by exfalso; omega)
  refine k_iload_n eX12_tells_47 rfl ?_
  refine k_if_leN 61 eX12_tells_48 (by decide) (by omega) (fun c_48 => by exfalso; omega) (fun c_48 => ?_)
  refine k_aload_n eX12_tells_51 rfl ?_
  refine k_iload_n eX12_tells_52 rfl ?_
  refine cS1 (M' := MX12_above) eX12_tells_53 mX12_311 wX12_above sX12_above rfl (pX12_above1) (by decide) (Nat.le_of_ble_eq_true rfl) ?_
  refine k_iload_n eX12_tells_56 rfl ?_
  refine cV1 (M' := MX12_tells) eX12_tells_57 mX12_326 wX12_tells vX12_tells ⟨_, _, _, rfl, rfl, rfl⟩ rfl (pX12_tells_5_0 (S := S) (n := n) (p := p) (nb := nb) hac hbk hran (by omega) hpp hB (x) hnb) (by decide) (Nat.le_of_ble_eq_true rfl) ?_
  
  refine k_ireturn eX12_tells_60 rfl rfl ?_
  exact ⟨rfl, rfl⟩
set_option maxHeartbeats 400000 in
theorem pX12_tells_5_5 {S : k_S} {B : Nat → Int32} {n p : Nat} {nb : Int32} (hac : S.1 2647 = nI p) (hbk : S.2.1 72 = B) (hran : S.1 2629 = nI n) (hn : n + 6 ≤ 24) (hpp : p < 50) (hB : B p = nI 5) (x : Int32) (hnb : nI p = nb) : Sp 9 0 0 MX12_tells [.ref 52, .int (nI 5), .int (x)] (hp S) (Rt (some (.int ((((((x + nb) + nI 3) * nI 2) - ((nI 1) ^^^ nb)) ^^^ nI 5)))) (hp (mtr S n [60, 2, 10, 20, 1, 11]))) := by
  refine Sp_of (by decide +kernel) (Nat.le_of_ble_eq_true rfl) ?_
  show AW none MX12_tells 9 0 0 0 [.ref 52, .int (nI 5), .int (x), .null] [] (hp S) _
  refine k_iload_n eX12_tells_0 rfl ?_
  refine k_iconst (v := nI 5) eX12_tells_1 (by decide) ?_
  refine k_icmp_neN 23 eX12_tells_2 (by decide) (by omega) (by omega) (fun c_2 => by exfalso; omega) (fun c_2 => ?_)
  refine k_aload_n eX12_tells_5 rfl ?_
  refine k_bipush (v := nI 60) eX12_tells_6 (by decide) ?_
  refine cV0 (M' := MX12_runs) eX12_tells_8 mX12_308 wX12_runs vX12_runs ⟨_, _, _, rfl, rfl, rfl⟩ rfl (pX12_runs (S := S) (n := n) hran (by omega) 60) (by decide) (Nat.le_of_ble_eq_true rfl) ?_
  
  refine k_aload_n eX12_tells_11 rfl ?_
  refine k_iload_n eX12_tells_12 rfl ?_
  refine cS1 (M' := MX12_above) eX12_tells_13 mX12_311 wX12_above sX12_above rfl (pX12_above5) (by decide) (Nat.le_of_ble_eq_true rfl) ?_
  refine k_iload_n eX12_tells_16 rfl ?_
  refine cV1 (M' := MX12_tells) eX12_tells_17 mX12_326 wX12_tells vX12_tells ⟨_, _, _, rfl, rfl, rfl⟩ rfl (pX12_tells_5_1 (S := (mtr S n [60])) (n := (n + 1)) (p := p) (nb := nb) (mtr_1 (by decide) hac) (mtr_2 (by decide) hbk) (mtr_R hran) (by omega) hpp hB (x) hnb) (by decide) (Nat.le_of_ble_eq_true rfl) ?_
  refine k_heap (h2 := hp (mtr S n [60, 2, 10, 20, 1, 11])) (congrArg hp (mtr_app [60] S n [2, 10, 20, 1, 11]).symm) ?_
  refine k_iconst (v := nI 5) eX12_tells_20 (by decide) ?_
  refine k_ixor eX12_tells_21 ?_
  refine k_ireturn eX12_tells_22 rfl rfl ?_
  exact ⟨rfl, rfl⟩
set_option maxHeartbeats 400000 in
theorem pX12_worksIn_6_0 {S : k_S} {B : Nat → Int32} {n p : Nat} {nb : Int32} (hac : S.1 2647 = nI p) (hbk : S.2.1 72 = B) (hran : S.1 2629 = nI n) (hn : n + 1 ≤ 24) (hpp : p < 50) (hB : B p = nI 6) (x : Int32) (hnb : nI p = nb) : Sp 1 0 0 MX12_worksIn [.ref 52, .int (nI 0), .int (x)] (hp S) (Rt (some (.int ((x + nb)))) (hp (mtr S n [1]))) := by
  refine Sp_of (by decide +kernel) (Nat.le_of_ble_eq_true rfl) ?_
  show AW none MX12_worksIn 1 0 0 0 [.ref 52, .int (nI 0), .int (x)] [] (hp S) _
  refine k_iload_n eX12_worksIn_0 rfl ?_
  refine k_iconst (v := nI 1) eX12_worksIn_1 (by decide) ?_
  refine k_icmp_neN 23 eX12_worksIn_2 (by decide) (by omega) (by omega) (fun c_2 => ?_) (fun c_2 => by exfalso; omega)
  refine k_iload_n eX12_worksIn_23 rfl ?_
  refine k_iconst (v := nI 3) eX12_worksIn_24 (by decide) ?_
  refine k_icmp_neN 46 eX12_worksIn_25 (by decide) (by omega) (by omega) (fun c_25 => ?_) (fun c_25 => by exfalso; omega)
  refine k_iload_n eX12_worksIn_46 rfl ?_
  refine k_bipush (v := nI 6) eX12_worksIn_47 (by decide) ?_
  refine k_icmp_neN 70 eX12_worksIn_49 (by decide) (by omega) (by omega) (fun c_49 => ?_) (fun c_49 => by exfalso; omega)
  refine k_iload_n eX12_worksIn_70 rfl ?_
  refine k_if_leN 84 eX12_worksIn_71 (by decide) (by omega) (fun c_71 => ?_) (fun c_71 => by exfalso; omega)
  refine k_aload_n eX12_worksIn_84 rfl ?_
  refine k_iconst (v := nI 1) eX12_worksIn_85 (by decide) ?_
  refine cV0 (M' := MX12_runs) eX12_worksIn_86 mX12_308 wX12_runs vX12_runs ⟨_, _, _, rfl, rfl, rfl⟩ rfl (pX12_runs (S := S) (n := n) hran (by omega) 1) (by decide) (Nat.le_of_ble_eq_true rfl) ?_
  
  refine k_iload_n eX12_worksIn_89 rfl ?_
  refine k_aload_n eX12_worksIn_90 rfl ?_
  refine GX12_317 eX12_worksIn_91 rfl ?_
  refine k_topi (nI p) (show ((mtr S n [1])).1 2647 = nI p from mtr_1 (by decide) hac) ?_
  refine k_topi (nb) hnb ?_
  refine k_iadd eX12_worksIn_94 ?_
  refine k_ireturn eX12_worksIn_95 rfl rfl ?_
  exact ⟨rfl, rfl⟩
set_option maxHeartbeats 400000 in
theorem pX12_worksIn_6_6 {S : k_S} {B : Nat → Int32} {n p : Nat} {nb : Int32} (hac : S.1 2647 = nI p) (hbk : S.2.1 72 = B) (hran : S.1 2629 = nI n) (hn : n + 2 ≤ 24) (hpp : p < 50) (hB : B p = nI 6) (x : Int32) (hnb : nI p = nb) : Sp 2 0 0 MX12_worksIn [.ref 52, .int (nI 6), .int (x)] (hp S) (Rt (some (.int (((x + nb) * nI 2)))) (hp (mtr S n [70, 1]))) := by
  refine Sp_of (by decide +kernel) (Nat.le_of_ble_eq_true rfl) ?_
  show AW none MX12_worksIn 2 0 0 0 [.ref 52, .int (nI 6), .int (x)] [] (hp S) _
  refine k_iload_n eX12_worksIn_0 rfl ?_
  refine k_iconst (v := nI 1) eX12_worksIn_1 (by decide) ?_
  refine k_icmp_neN 23 eX12_worksIn_2 (by decide) (by omega) (by omega) (fun c_2 => ?_) (fun c_2 => by exfalso; omega)
  refine k_iload_n eX12_worksIn_23 rfl ?_
  refine k_iconst (v := nI 3) eX12_worksIn_24 (by decide) ?_
  refine k_icmp_neN 46 eX12_worksIn_25 (by decide) (by omega) (by omega) (fun c_25 => ?_) (fun c_25 => by exfalso; omega)
  refine k_iload_n eX12_worksIn_46 rfl ?_
  refine k_bipush (v := nI 6) eX12_worksIn_47 (by decide) ?_
  refine k_icmp_neN 70 eX12_worksIn_49 (by decide) (by omega) (by omega) (fun c_49 => by exfalso; omega) (fun c_49 => ?_)
  refine k_aload_n eX12_worksIn_52 rfl ?_
  refine k_bipush (v := nI 70) eX12_worksIn_53 (by decide) ?_
  refine cV0 (M' := MX12_runs) eX12_worksIn_55 mX12_308 wX12_runs vX12_runs ⟨_, _, _, rfl, rfl, rfl⟩ rfl (pX12_runs (S := S) (n := n) hran (by omega) 70) (by decide) (Nat.le_of_ble_eq_true rfl) ?_
  
  refine k_aload_n eX12_worksIn_58 rfl ?_
  refine k_iload_n eX12_worksIn_59 rfl ?_
  refine cS1 (M' := MX12_above) eX12_worksIn_60 mX12_311 wX12_above sX12_above rfl (pX12_above6) (by decide) (Nat.le_of_ble_eq_true rfl) ?_
  refine k_iload_n eX12_worksIn_63 rfl ?_
  refine cV1 (M' := MX12_worksIn) eX12_worksIn_64 mX12_314 wX12_worksIn vX12_worksIn ⟨_, _, _, rfl, rfl, rfl⟩ rfl (pX12_worksIn_6_0 (S := (mtr S n [70])) (n := (n + 1)) (p := p) (nb := nb) (mtr_1 (by decide) hac) (mtr_2 (by decide) hbk) (mtr_R hran) (by omega) hpp hB (x) hnb) (by decide) (Nat.le_of_ble_eq_true rfl) ?_
  refine k_heap (h2 := hp (mtr S n [70, 1])) (congrArg hp (mtr_app [70] S n [1]).symm) ?_
  refine k_iconst (v := nI 2) eX12_worksIn_67 (by decide) ?_
  refine k_imul eX12_worksIn_68 ?_
  refine k_ireturn eX12_worksIn_69 rfl rfl ?_
  exact ⟨rfl, rfl⟩
set_option maxHeartbeats 400000 in
theorem pX12_restsIn_6_0 {S : k_S} {B : Nat → Int32} {n p : Nat} {nb : Int32} (hac : S.1 2647 = nI p) (hbk : S.2.1 72 = B) (hran : S.1 2629 = nI n) (hn : n + 3 ≤ 24) (hpp : p < 50) (hB : B p = nI 6) (x : Int32) (hnb : nI p = nb) : Sp 3 0 0 MX12_restsIn [.ref 52, .int (nI 0), .int (x)] (hp S) (Rt (some (.int ((((x + nb) * nI 2) * nI 2)))) (hp (mtr S n [10, 70, 1]))) := by
  refine Sp_of (by decide +kernel) (Nat.le_of_ble_eq_true rfl) ?_
  show AW none MX12_restsIn 3 0 0 0 [.ref 52, .int (nI 0), .int (x), .null] [] (hp S) _
  refine k_iload_n eX12_restsIn_0 rfl ?_
  refine k_iconst (v := nI 2) eX12_restsIn_1 (by decide) ?_
  refine k_icmp_neN 22 eX12_restsIn_2 (by decide) (by omega) (by omega) (fun c_2 => ?_) (fun c_2 => by exfalso; omega)
  refine k_iload_n eX12_restsIn_22 rfl ?_
  refine k_bipush (v := nI 7) eX12_restsIn_23 (by decide) ?_
  refine k_icmp_neN 61 eX12_restsIn_25 (by decide) (by omega) (by omega) (fun c_25 => ?_) (fun c_25 => by exfalso; omega)
  refine k_iload_n eX12_restsIn_61 rfl ?_
  refine k_if_leN 75 eX12_restsIn_62 (by decide) (by omega) (fun c_62 => ?_) (fun c_62 => by exfalso; omega)
  refine k_aload_n eX12_restsIn_75 rfl ?_
  refine k_bipush (v := nI 10) eX12_restsIn_76 (by decide) ?_
  refine cV0 (M' := MX12_runs) eX12_restsIn_78 mX12_308 wX12_runs vX12_runs ⟨_, _, _, rfl, rfl, rfl⟩ rfl (pX12_runs (S := S) (n := n) hran (by omega) 10) (by decide) (Nat.le_of_ble_eq_true rfl) ?_
  
  refine k_aload_n eX12_restsIn_81 rfl ?_
  refine k_aload_n eX12_restsIn_82 rfl ?_
  refine GX12_74 eX12_restsIn_83 rfl ?_
  refine k_aload_n eX12_restsIn_86 rfl ?_
  refine GX12_317 eX12_restsIn_87 rfl ?_
  refine k_topi (nI p) (show ((mtr S n [10])).1 2647 = nI p from mtr_1 (by decide) hac) ?_
  refine k_ialdN (j := p) eX12_restsIn_90 (ar72 _) (by omega) (Nat.le_of_ble_eq_true rfl) ?_
  refine k_topi (nI 6) ((congrFun (show (mtr S n [10]).2.1 72 = B from mtr_2 (by decide) hbk) p).trans hB) ?_
  refine k_iload_n eX12_restsIn_91 rfl ?_
  refine cV1 (M' := MX12_worksIn) eX12_restsIn_92 mX12_314 wX12_worksIn vX12_worksIn ⟨_, _, _, rfl, rfl, rfl⟩ rfl (pX12_worksIn_6_6 (S := (mtr S n [10])) (n := (n + 1)) (p := p) (nb := nb) (mtr_1 (by decide) hac) (mtr_2 (by decide) hbk) (mtr_R hran) (by omega) hpp hB (x) hnb) (by decide) (Nat.le_of_ble_eq_true rfl) ?_
  refine k_heap (h2 := hp (mtr S n [10, 70, 1])) (congrArg hp (mtr_app [10] S n [70, 1]).symm) ?_
  refine k_iconst (v := nI 2) eX12_restsIn_95 (by decide) ?_
  refine k_imul eX12_restsIn_96 ?_
  refine k_ireturn eX12_restsIn_97 rfl rfl ?_
  exact ⟨rfl, rfl⟩
set_option maxHeartbeats 400000 in
theorem pX12_restsIn_6_6 {S : k_S} {B : Nat → Int32} {n p : Nat} {nb : Int32} (hac : S.1 2647 = nI p) (hbk : S.2.1 72 = B) (hran : S.1 2629 = nI n) (hn : n + 3 ≤ 24) (hpp : p < 50) (hB : B p = nI 6) (x : Int32) (hnb : nI p = nb) : Sp 4 0 0 MX12_restsIn [.ref 52, .int (nI 6), .int (x)] (hp S) (Rt (some (.int ((((x + nb) * nI 2) * nI 2)))) (hp (mtr S n [10, 70, 1]))) := by
  refine Sp_of (by decide +kernel) (Nat.le_of_ble_eq_true rfl) ?_
  show AW none MX12_restsIn 4 0 0 0 [.ref 52, .int (nI 6), .int (x), .null] [] (hp S) _
  refine k_iload_n eX12_restsIn_0 rfl ?_
  refine k_iconst (v := nI 2) eX12_restsIn_1 (by decide) ?_
  refine k_icmp_neN 22 eX12_restsIn_2 (by decide) (by omega) (by omega) (fun c_2 => ?_) (fun c_2 => by exfalso; omega)
  refine k_iload_n eX12_restsIn_22 rfl ?_
  refine k_bipush (v := nI 7) eX12_restsIn_23 (by decide) ?_
  refine k_icmp_neN 61 eX12_restsIn_25 (by decide) (by omega) (by omega) (fun c_25 => ?_) (fun c_25 => by exfalso; omega)
  refine k_iload_n eX12_restsIn_61 rfl ?_
  refine k_if_leN 75 eX12_restsIn_62 (by decide) (by omega) (fun c_62 => by exfalso; omega) (fun c_62 => ?_)
  refine k_aload_n eX12_restsIn_65 rfl ?_
  refine k_iload_n eX12_restsIn_66 rfl ?_
  refine cS1 (M' := MX12_above) eX12_restsIn_67 mX12_311 wX12_above sX12_above rfl (pX12_above6) (by decide) (Nat.le_of_ble_eq_true rfl) ?_
  refine k_iload_n eX12_restsIn_70 rfl ?_
  refine cV1 (M' := MX12_restsIn) eX12_restsIn_71 mX12_320 wX12_restsIn vX12_restsIn ⟨_, _, _, rfl, rfl, rfl⟩ rfl (pX12_restsIn_6_0 (S := S) (n := n) (p := p) (nb := nb) hac hbk hran (by omega) hpp hB (x) hnb) (by decide) (Nat.le_of_ble_eq_true rfl) ?_
  
  refine k_ireturn eX12_restsIn_74 rfl rfl ?_
  exact ⟨rfl, rfl⟩
set_option maxHeartbeats 400000 in
theorem pX12_countsIn_6_0 {S : k_S} {B : Nat → Int32} {n p : Nat} {nb : Int32} (hac : S.1 2647 = nI p) (hbk : S.2.1 72 = B) (hran : S.1 2629 = nI n) (hn : n + 1 ≤ 24) (hpp : p < 50) (hB : B p = nI 6) (x : Int32) (hnb : nI p = nb) : Sp 1 0 0 MX12_countsIn [.ref 52, .int (nI 0), .int (x)] (hp S) (Rt (some (.int ((x ^^^ nb)))) (hp (mtr S n [11]))) := by
  refine Sp_of (by decide +kernel) (Nat.le_of_ble_eq_true rfl) ?_
  show AW none MX12_countsIn 1 0 0 0 [.ref 52, .int (nI 0), .int (x), .null] [] (hp S) _
  refine k_iload_n eX12_countsIn_0 rfl ?_
  refine k_iconst (v := nI 3) eX12_countsIn_1 (by decide) ?_
  refine k_icmp_neN 23 eX12_countsIn_2 (by decide) (by omega) (by omega) (fun c_2 => ?_) (fun c_2 => by exfalso; omega)
  refine k_iload_n eX12_countsIn_23 rfl ?_
  refine k_iconst (v := nI 4) eX12_countsIn_24 (by decide) ?_
  refine k_icmp_neN 61 eX12_countsIn_25 (by decide) (by omega) (by omega) (fun c_25 => ?_) (fun c_25 => by exfalso; omega)
  refine k_iload_n eX12_countsIn_61 rfl ?_
  refine k_if_leN 75 eX12_countsIn_62 (by decide) (by omega) (fun c_62 => ?_) (fun c_62 => by exfalso; omega)
  refine k_aload_n eX12_countsIn_75 rfl ?_
  refine k_bipush (v := nI 11) eX12_countsIn_76 (by decide) ?_
  refine cV0 (M' := MX12_runs) eX12_countsIn_78 mX12_308 wX12_runs vX12_runs ⟨_, _, _, rfl, rfl, rfl⟩ rfl (pX12_runs (S := S) (n := n) hran (by omega) 11) (by decide) (Nat.le_of_ble_eq_true rfl) ?_
  
  refine k_iload_n eX12_countsIn_81 rfl ?_
  refine k_aload_n eX12_countsIn_82 rfl ?_
  refine GX12_317 eX12_countsIn_83 rfl ?_
  refine k_topi (nI p) (show ((mtr S n [11])).1 2647 = nI p from mtr_1 (by decide) hac) ?_
  refine k_topi (nb) hnb ?_
  refine k_ixor eX12_countsIn_86 ?_
  refine k_ireturn eX12_countsIn_87 rfl rfl ?_
  exact ⟨rfl, rfl⟩
set_option maxHeartbeats 400000 in
theorem pX12_countsIn_6_6 {S : k_S} {B : Nat → Int32} {n p : Nat} {nb : Int32} (hac : S.1 2647 = nI p) (hbk : S.2.1 72 = B) (hran : S.1 2629 = nI n) (hn : n + 1 ≤ 24) (hpp : p < 50) (hB : B p = nI 6) (x : Int32) (hnb : nI p = nb) : Sp 2 0 0 MX12_countsIn [.ref 52, .int (nI 6), .int (x)] (hp S) (Rt (some (.int ((x ^^^ nb)))) (hp (mtr S n [11]))) := by
  refine Sp_of (by decide +kernel) (Nat.le_of_ble_eq_true rfl) ?_
  show AW none MX12_countsIn 2 0 0 0 [.ref 52, .int (nI 6), .int (x), .null] [] (hp S) _
  refine k_iload_n eX12_countsIn_0 rfl ?_
  refine k_iconst (v := nI 3) eX12_countsIn_1 (by decide) ?_
  refine k_icmp_neN 23 eX12_countsIn_2 (by decide) (by omega) (by omega) (fun c_2 => ?_) (fun c_2 => by exfalso; omega)
  refine k_iload_n eX12_countsIn_23 rfl ?_
  refine k_iconst (v := nI 4) eX12_countsIn_24 (by decide) ?_
  refine k_icmp_neN 61 eX12_countsIn_25 (by decide) (by omega) (by omega) (fun c_25 => ?_) (fun c_25 => by exfalso; omega)
  refine k_iload_n eX12_countsIn_61 rfl ?_
  refine k_if_leN 75 eX12_countsIn_62 (by decide) (by omega) (fun c_62 => by exfalso; omega) (fun c_62 => ?_)
  refine k_aload_n eX12_countsIn_65 rfl ?_
  refine k_iload_n eX12_countsIn_66 rfl ?_
  refine cS1 (M' := MX12_above) eX12_countsIn_67 mX12_311 wX12_above sX12_above rfl (pX12_above6) (by decide) (Nat.le_of_ble_eq_true rfl) ?_
  refine k_iload_n eX12_countsIn_70 rfl ?_
  refine cV1 (M' := MX12_countsIn) eX12_countsIn_71 mX12_323 wX12_countsIn vX12_countsIn ⟨_, _, _, rfl, rfl, rfl⟩ rfl (pX12_countsIn_6_0 (S := S) (n := n) (p := p) (nb := nb) hac hbk hran (by omega) hpp hB (x) hnb) (by decide) (Nat.le_of_ble_eq_true rfl) ?_
  
  refine k_ireturn eX12_countsIn_74 rfl rfl ?_
  exact ⟨rfl, rfl⟩
set_option maxHeartbeats 400000 in
theorem pX12_tells_6_0 {S : k_S} {B : Nat → Int32} {n p : Nat} {nb : Int32} (hac : S.1 2647 = nI p) (hbk : S.2.1 72 = B) (hran : S.1 2629 = nI n) (hn : n + 5 ≤ 24) (hpp : p < 50) (hB : B p = nI 6) (x : Int32) (hnb : nI p = nb) : Sp 5 0 0 MX12_tells [.ref 52, .int (nI 0), .int (x)] (hp S) (Rt (some (.int (((((x + nb) * nI 2) * nI 2) - ((nI 1) ^^^ nb))))) (hp (mtr S n [2, 10, 70, 1, 11]))) := by
  refine Sp_of (by decide +kernel) (Nat.le_of_ble_eq_true rfl) ?_
  show AW none MX12_tells 5 0 0 0 [.ref 52, .int (nI 0), .int (x), .null] [] (hp S) _
  refine k_iload_n eX12_tells_0 rfl ?_
  refine k_iconst (v := nI 5) eX12_tells_1 (by decide) ?_
  refine k_icmp_neN 23 eX12_tells_2 (by decide) (by omega) (by omega) (fun c_2 => ?_) (fun c_2 => by exfalso; omega)
  refine k_iload_n eX12_tells_23 rfl ?_
  refine k_bipush (v := nI 7) eX12_tells_24 (by decide) ?_
  refine k_icmp_neN 47 eX12_tells_26 (by decide) (by omega) (by omega) (fun c_26 => ?_) (fun c_26 => by exfalso; omega)
  refine k_iload_n eX12_tells_47 rfl ?_
  refine k_if_leN 61 eX12_tells_48 (by decide) (by omega) (fun c_48 => ?_) (fun c_48 => by exfalso; omega)
  refine k_aload_n eX12_tells_61 rfl ?_
  refine k_iconst (v := nI 2) eX12_tells_62 (by decide) ?_
  refine cV0 (M' := MX12_runs) eX12_tells_63 mX12_308 wX12_runs vX12_runs ⟨_, _, _, rfl, rfl, rfl⟩ rfl (pX12_runs (S := S) (n := n) hran (by omega) 2) (by decide) (Nat.le_of_ble_eq_true rfl) ?_
  
  refine k_aload_n eX12_tells_66 rfl ?_
  refine k_aload_n eX12_tells_67 rfl ?_
  refine GX12_74 eX12_tells_68 rfl ?_
  refine k_aload_n eX12_tells_71 rfl ?_
  refine GX12_317 eX12_tells_72 rfl ?_
  refine k_topi (nI p) (show ((mtr S n [2])).1 2647 = nI p from mtr_1 (by decide) hac) ?_
  refine k_ialdN (j := p) eX12_tells_75 (ar72 _) (by omega) (Nat.le_of_ble_eq_true rfl) ?_
  refine k_topi (nI 6) ((congrFun (show (mtr S n [2]).2.1 72 = B from mtr_2 (by decide) hbk) p).trans hB) ?_
  refine k_iload_n eX12_tells_76 rfl ?_
  refine cV1 (M' := MX12_restsIn) eX12_tells_77 mX12_320 wX12_restsIn vX12_restsIn ⟨_, _, _, rfl, rfl, rfl⟩ rfl (pX12_restsIn_6_6 (S := (mtr S n [2])) (n := (n + 1)) (p := p) (nb := nb) (mtr_1 (by decide) hac) (mtr_2 (by decide) hbk) (mtr_R hran) (by omega) hpp hB (x) hnb) (by decide) (Nat.le_of_ble_eq_true rfl) ?_
  refine k_heap (h2 := hp (mtr S n [2, 10, 70, 1])) (congrArg hp (mtr_app [2] S n [10, 70, 1]).symm) ?_
  refine k_istore_n (L2 := [_, _, _, _]) eX12_tells_80 (Nat.le_of_ble_eq_true rfl) rfl ?_
  refine k_iload_n eX12_tells_81 rfl ?_
  refine k_aload_n eX12_tells_82 rfl ?_
  refine k_aload_n eX12_tells_83 rfl ?_
  refine GX12_74 eX12_tells_84 rfl ?_
  refine k_aload_n eX12_tells_87 rfl ?_
  refine GX12_317 eX12_tells_88 rfl ?_
  refine k_topi (nI p) (show ((mtr S n [2, 10, 70, 1])).1 2647 = nI p from mtr_1 (by decide) hac) ?_
  refine k_ialdN (j := p) eX12_tells_91 (ar72 _) (by omega) (Nat.le_of_ble_eq_true rfl) ?_
  refine k_topi (nI 6) ((congrFun (show (mtr S n [2, 10, 70, 1]).2.1 72 = B from mtr_2 (by decide) hbk) p).trans hB) ?_
  refine k_iconst (v := nI 1) eX12_tells_92 (by decide) ?_
  refine cV1 (M' := MX12_countsIn) eX12_tells_93 mX12_323 wX12_countsIn vX12_countsIn ⟨_, _, _, rfl, rfl, rfl⟩ rfl (pX12_countsIn_6_6 (S := (mtr S n [2, 10, 70, 1])) (n := (n + 4)) (p := p) (nb := nb) (mtr_1 (by decide) hac) (mtr_2 (by decide) hbk) (mtr_R hran) (by omega) hpp hB (nI 1) hnb) (by decide) (Nat.le_of_ble_eq_true rfl) ?_
  refine k_heap (h2 := hp (mtr S n [2, 10, 70, 1, 11])) (congrArg hp (mtr_app [2, 10, 70, 1] S n [11]).symm) ?_
  refine k_isub eX12_tells_96 ?_
  refine k_ireturn eX12_tells_97 rfl rfl ?_
  exact ⟨rfl, rfl⟩
set_option maxHeartbeats 400000 in
theorem pX12_tells_6_6 {S : k_S} {B : Nat → Int32} {n p : Nat} {nb : Int32} (hac : S.1 2647 = nI p) (hbk : S.2.1 72 = B) (hran : S.1 2629 = nI n) (hn : n + 5 ≤ 24) (hpp : p < 50) (hB : B p = nI 6) (x : Int32) (hnb : nI p = nb) : Sp 6 0 0 MX12_tells [.ref 52, .int (nI 6), .int (x)] (hp S) (Rt (some (.int (((((x + nb) * nI 2) * nI 2) - ((nI 1) ^^^ nb))))) (hp (mtr S n [2, 10, 70, 1, 11]))) := by
  refine Sp_of (by decide +kernel) (Nat.le_of_ble_eq_true rfl) ?_
  show AW none MX12_tells 6 0 0 0 [.ref 52, .int (nI 6), .int (x), .null] [] (hp S) _
  refine k_iload_n eX12_tells_0 rfl ?_
  refine k_iconst (v := nI 5) eX12_tells_1 (by decide) ?_
  refine k_icmp_neN 23 eX12_tells_2 (by decide) (by omega) (by omega) (fun c_2 => ?_) (fun c_2 => by exfalso; omega)
  refine k_iload_n eX12_tells_23 rfl ?_
  refine k_bipush (v := nI 7) eX12_tells_24 (by decide) ?_
  refine k_icmp_neN 47 eX12_tells_26 (by decide) (by omega) (by omega) (fun c_26 => ?_) (fun c_26 => by exfalso; omega)
  refine k_iload_n eX12_tells_47 rfl ?_
  refine k_if_leN 61 eX12_tells_48 (by decide) (by omega) (fun c_48 => by exfalso; omega) (fun c_48 => ?_)
  refine k_aload_n eX12_tells_51 rfl ?_
  refine k_iload_n eX12_tells_52 rfl ?_
  refine cS1 (M' := MX12_above) eX12_tells_53 mX12_311 wX12_above sX12_above rfl (pX12_above6) (by decide) (Nat.le_of_ble_eq_true rfl) ?_
  refine k_iload_n eX12_tells_56 rfl ?_
  refine cV1 (M' := MX12_tells) eX12_tells_57 mX12_326 wX12_tells vX12_tells ⟨_, _, _, rfl, rfl, rfl⟩ rfl (pX12_tells_6_0 (S := S) (n := n) (p := p) (nb := nb) hac hbk hran (by omega) hpp hB (x) hnb) (by decide) (Nat.le_of_ble_eq_true rfl) ?_
  
  refine k_ireturn eX12_tells_60 rfl rfl ?_
  exact ⟨rfl, rfl⟩
set_option maxHeartbeats 400000 in
theorem pX12_worksIn_7_0 {S : k_S} {B : Nat → Int32} {n p : Nat} {nb : Int32} (hac : S.1 2647 = nI p) (hbk : S.2.1 72 = B) (hran : S.1 2629 = nI n) (hn : n + 1 ≤ 24) (hpp : p < 50) (hB : B p = nI 7) (x : Int32) (hnb : nI p = nb) : Sp 1 0 0 MX12_worksIn [.ref 52, .int (nI 0), .int (x)] (hp S) (Rt (some (.int ((x + nb)))) (hp (mtr S n [1]))) := by
  refine Sp_of (by decide +kernel) (Nat.le_of_ble_eq_true rfl) ?_
  show AW none MX12_worksIn 1 0 0 0 [.ref 52, .int (nI 0), .int (x)] [] (hp S) _
  refine k_iload_n eX12_worksIn_0 rfl ?_
  refine k_iconst (v := nI 1) eX12_worksIn_1 (by decide) ?_
  refine k_icmp_neN 23 eX12_worksIn_2 (by decide) (by omega) (by omega) (fun c_2 => ?_) (fun c_2 => by exfalso; omega)
  refine k_iload_n eX12_worksIn_23 rfl ?_
  refine k_iconst (v := nI 3) eX12_worksIn_24 (by decide) ?_
  refine k_icmp_neN 46 eX12_worksIn_25 (by decide) (by omega) (by omega) (fun c_25 => ?_) (fun c_25 => by exfalso; omega)
  refine k_iload_n eX12_worksIn_46 rfl ?_
  refine k_bipush (v := nI 6) eX12_worksIn_47 (by decide) ?_
  refine k_icmp_neN 70 eX12_worksIn_49 (by decide) (by omega) (by omega) (fun c_49 => ?_) (fun c_49 => by exfalso; omega)
  refine k_iload_n eX12_worksIn_70 rfl ?_
  refine k_if_leN 84 eX12_worksIn_71 (by decide) (by omega) (fun c_71 => ?_) (fun c_71 => by exfalso; omega)
  refine k_aload_n eX12_worksIn_84 rfl ?_
  refine k_iconst (v := nI 1) eX12_worksIn_85 (by decide) ?_
  refine cV0 (M' := MX12_runs) eX12_worksIn_86 mX12_308 wX12_runs vX12_runs ⟨_, _, _, rfl, rfl, rfl⟩ rfl (pX12_runs (S := S) (n := n) hran (by omega) 1) (by decide) (Nat.le_of_ble_eq_true rfl) ?_
  
  refine k_iload_n eX12_worksIn_89 rfl ?_
  refine k_aload_n eX12_worksIn_90 rfl ?_
  refine GX12_317 eX12_worksIn_91 rfl ?_
  refine k_topi (nI p) (show ((mtr S n [1])).1 2647 = nI p from mtr_1 (by decide) hac) ?_
  refine k_topi (nb) hnb ?_
  refine k_iadd eX12_worksIn_94 ?_
  refine k_ireturn eX12_worksIn_95 rfl rfl ?_
  exact ⟨rfl, rfl⟩
set_option maxHeartbeats 400000 in
theorem pX12_worksIn_7_2 {S : k_S} {B : Nat → Int32} {n p : Nat} {nb : Int32} (hac : S.1 2647 = nI p) (hbk : S.2.1 72 = B) (hran : S.1 2629 = nI n) (hn : n + 1 ≤ 24) (hpp : p < 50) (hB : B p = nI 7) (x : Int32) (hnb : nI p = nb) : Sp 2 0 0 MX12_worksIn [.ref 52, .int (nI 2), .int (x)] (hp S) (Rt (some (.int ((x + nb)))) (hp (mtr S n [1]))) := by
  refine Sp_of (by decide +kernel) (Nat.le_of_ble_eq_true rfl) ?_
  show AW none MX12_worksIn 2 0 0 0 [.ref 52, .int (nI 2), .int (x)] [] (hp S) _
  refine k_iload_n eX12_worksIn_0 rfl ?_
  refine k_iconst (v := nI 1) eX12_worksIn_1 (by decide) ?_
  refine k_icmp_neN 23 eX12_worksIn_2 (by decide) (by omega) (by omega) (fun c_2 => ?_) (fun c_2 => by exfalso; omega)
  refine k_iload_n eX12_worksIn_23 rfl ?_
  refine k_iconst (v := nI 3) eX12_worksIn_24 (by decide) ?_
  refine k_icmp_neN 46 eX12_worksIn_25 (by decide) (by omega) (by omega) (fun c_25 => ?_) (fun c_25 => by exfalso; omega)
  refine k_iload_n eX12_worksIn_46 rfl ?_
  refine k_bipush (v := nI 6) eX12_worksIn_47 (by decide) ?_
  refine k_icmp_neN 70 eX12_worksIn_49 (by decide) (by omega) (by omega) (fun c_49 => ?_) (fun c_49 => by exfalso; omega)
  refine k_iload_n eX12_worksIn_70 rfl ?_
  refine k_if_leN 84 eX12_worksIn_71 (by decide) (by omega) (fun c_71 => by exfalso; omega) (fun c_71 => ?_)
  refine k_aload_n eX12_worksIn_74 rfl ?_
  refine k_iload_n eX12_worksIn_75 rfl ?_
  refine cS1 (M' := MX12_above) eX12_worksIn_76 mX12_311 wX12_above sX12_above rfl (pX12_above2) (by decide) (Nat.le_of_ble_eq_true rfl) ?_
  refine k_iload_n eX12_worksIn_79 rfl ?_
  refine cV1 (M' := MX12_worksIn) eX12_worksIn_80 mX12_314 wX12_worksIn vX12_worksIn ⟨_, _, _, rfl, rfl, rfl⟩ rfl (pX12_worksIn_7_0 (S := S) (n := n) (p := p) (nb := nb) hac hbk hran (by omega) hpp hB (x) hnb) (by decide) (Nat.le_of_ble_eq_true rfl) ?_
  
  refine k_ireturn eX12_worksIn_83 rfl rfl ?_
  exact ⟨rfl, rfl⟩
set_option maxHeartbeats 400000 in
theorem pX12_worksIn_7_3 {S : k_S} {B : Nat → Int32} {n p : Nat} {nb : Int32} (hac : S.1 2647 = nI p) (hbk : S.2.1 72 = B) (hran : S.1 2629 = nI n) (hn : n + 2 ≤ 24) (hpp : p < 50) (hB : B p = nI 7) (x : Int32) (hnb : nI p = nb) : Sp 3 0 0 MX12_worksIn [.ref 52, .int (nI 3), .int (x)] (hp S) (Rt (some (.int (((x + nI 1) + nb)))) (hp (mtr S n [41, 1]))) := by
  refine Sp_of (by decide +kernel) (Nat.le_of_ble_eq_true rfl) ?_
  show AW none MX12_worksIn 3 0 0 0 [.ref 52, .int (nI 3), .int (x)] [] (hp S) _
  refine k_iload_n eX12_worksIn_0 rfl ?_
  refine k_iconst (v := nI 1) eX12_worksIn_1 (by decide) ?_
  refine k_icmp_neN 23 eX12_worksIn_2 (by decide) (by omega) (by omega) (fun c_2 => ?_) (fun c_2 => by exfalso; omega)
  refine k_iload_n eX12_worksIn_23 rfl ?_
  refine k_iconst (v := nI 3) eX12_worksIn_24 (by decide) ?_
  refine k_icmp_neN 46 eX12_worksIn_25 (by decide) (by omega) (by omega) (fun c_25 => by exfalso; omega) (fun c_25 => ?_)
  refine k_aload_n eX12_worksIn_28 rfl ?_
  refine k_bipush (v := nI 41) eX12_worksIn_29 (by decide) ?_
  refine cV0 (M' := MX12_runs) eX12_worksIn_31 mX12_308 wX12_runs vX12_runs ⟨_, _, _, rfl, rfl, rfl⟩ rfl (pX12_runs (S := S) (n := n) hran (by omega) 41) (by decide) (Nat.le_of_ble_eq_true rfl) ?_
  
  refine k_aload_n eX12_worksIn_34 rfl ?_
  refine k_iload_n eX12_worksIn_35 rfl ?_
  refine cS1 (M' := MX12_above) eX12_worksIn_36 mX12_311 wX12_above sX12_above rfl (pX12_above3) (by decide) (Nat.le_of_ble_eq_true rfl) ?_
  refine k_iload_n eX12_worksIn_39 rfl ?_
  refine k_iconst (v := nI 1) eX12_worksIn_40 (by decide) ?_
  refine k_iadd eX12_worksIn_41 ?_
  refine cV1 (M' := MX12_worksIn) eX12_worksIn_42 mX12_314 wX12_worksIn vX12_worksIn ⟨_, _, _, rfl, rfl, rfl⟩ rfl (pX12_worksIn_7_2 (S := (mtr S n [41])) (n := (n + 1)) (p := p) (nb := nb) (mtr_1 (by decide) hac) (mtr_2 (by decide) hbk) (mtr_R hran) (by omega) hpp hB ((x + nI 1)) hnb) (by decide) (Nat.le_of_ble_eq_true rfl) ?_
  refine k_heap (h2 := hp (mtr S n [41, 1])) (congrArg hp (mtr_app [41] S n [1]).symm) ?_
  refine k_ireturn eX12_worksIn_45 rfl rfl ?_
  exact ⟨rfl, rfl⟩
set_option maxHeartbeats 400000 in
theorem pX12_worksIn_7_7 {S : k_S} {B : Nat → Int32} {n p : Nat} {nb : Int32} (hac : S.1 2647 = nI p) (hbk : S.2.1 72 = B) (hran : S.1 2629 = nI n) (hn : n + 2 ≤ 24) (hpp : p < 50) (hB : B p = nI 7) (x : Int32) (hnb : nI p = nb) : Sp 4 0 0 MX12_worksIn [.ref 52, .int (nI 7), .int (x)] (hp S) (Rt (some (.int (((x + nI 1) + nb)))) (hp (mtr S n [41, 1]))) := by
  refine Sp_of (by decide +kernel) (Nat.le_of_ble_eq_true rfl) ?_
  show AW none MX12_worksIn 4 0 0 0 [.ref 52, .int (nI 7), .int (x)] [] (hp S) _
  refine k_iload_n eX12_worksIn_0 rfl ?_
  refine k_iconst (v := nI 1) eX12_worksIn_1 (by decide) ?_
  refine k_icmp_neN 23 eX12_worksIn_2 (by decide) (by omega) (by omega) (fun c_2 => ?_) (fun c_2 => by exfalso; omega)
  refine k_iload_n eX12_worksIn_23 rfl ?_
  refine k_iconst (v := nI 3) eX12_worksIn_24 (by decide) ?_
  refine k_icmp_neN 46 eX12_worksIn_25 (by decide) (by omega) (by omega) (fun c_25 => ?_) (fun c_25 => by exfalso; omega)
  refine k_iload_n eX12_worksIn_46 rfl ?_
  refine k_bipush (v := nI 6) eX12_worksIn_47 (by decide) ?_
  refine k_icmp_neN 70 eX12_worksIn_49 (by decide) (by omega) (by omega) (fun c_49 => ?_) (fun c_49 => by exfalso; omega)
  refine k_iload_n eX12_worksIn_70 rfl ?_
  refine k_if_leN 84 eX12_worksIn_71 (by decide) (by omega) (fun c_71 => by exfalso; omega) (fun c_71 => ?_)
  refine k_aload_n eX12_worksIn_74 rfl ?_
  refine k_iload_n eX12_worksIn_75 rfl ?_
  refine cS1 (M' := MX12_above) eX12_worksIn_76 mX12_311 wX12_above sX12_above rfl (pX12_above7) (by decide) (Nat.le_of_ble_eq_true rfl) ?_
  refine k_iload_n eX12_worksIn_79 rfl ?_
  refine cV1 (M' := MX12_worksIn) eX12_worksIn_80 mX12_314 wX12_worksIn vX12_worksIn ⟨_, _, _, rfl, rfl, rfl⟩ rfl (pX12_worksIn_7_3 (S := S) (n := n) (p := p) (nb := nb) hac hbk hran (by omega) hpp hB (x) hnb) (by decide) (Nat.le_of_ble_eq_true rfl) ?_
  
  refine k_ireturn eX12_worksIn_83 rfl rfl ?_
  exact ⟨rfl, rfl⟩
set_option maxHeartbeats 400000 in
theorem pX12_restsIn_7_0 {S : k_S} {B : Nat → Int32} {n p : Nat} {nb : Int32} (hac : S.1 2647 = nI p) (hbk : S.2.1 72 = B) (hran : S.1 2629 = nI n) (hn : n + 3 ≤ 24) (hpp : p < 50) (hB : B p = nI 7) (x : Int32) (hnb : nI p = nb) : Sp 5 0 0 MX12_restsIn [.ref 52, .int (nI 0), .int (x)] (hp S) (Rt (some (.int ((((x + nI 1) + nb) * nI 2)))) (hp (mtr S n [10, 41, 1]))) := by
  refine Sp_of (by decide +kernel) (Nat.le_of_ble_eq_true rfl) ?_
  show AW none MX12_restsIn 5 0 0 0 [.ref 52, .int (nI 0), .int (x), .null] [] (hp S) _
  refine k_iload_n eX12_restsIn_0 rfl ?_
  refine k_iconst (v := nI 2) eX12_restsIn_1 (by decide) ?_
  refine k_icmp_neN 22 eX12_restsIn_2 (by decide) (by omega) (by omega) (fun c_2 => ?_) (fun c_2 => by exfalso; omega)
  refine k_iload_n eX12_restsIn_22 rfl ?_
  refine k_bipush (v := nI 7) eX12_restsIn_23 (by decide) ?_
  refine k_icmp_neN 61 eX12_restsIn_25 (by decide) (by omega) (by omega) (fun c_25 => ?_) (fun c_25 => by exfalso; omega)
  refine k_iload_n eX12_restsIn_61 rfl ?_
  refine k_if_leN 75 eX12_restsIn_62 (by decide) (by omega) (fun c_62 => ?_) (fun c_62 => by exfalso; omega)
  refine k_aload_n eX12_restsIn_75 rfl ?_
  refine k_bipush (v := nI 10) eX12_restsIn_76 (by decide) ?_
  refine cV0 (M' := MX12_runs) eX12_restsIn_78 mX12_308 wX12_runs vX12_runs ⟨_, _, _, rfl, rfl, rfl⟩ rfl (pX12_runs (S := S) (n := n) hran (by omega) 10) (by decide) (Nat.le_of_ble_eq_true rfl) ?_
  
  refine k_aload_n eX12_restsIn_81 rfl ?_
  refine k_aload_n eX12_restsIn_82 rfl ?_
  refine GX12_74 eX12_restsIn_83 rfl ?_
  refine k_aload_n eX12_restsIn_86 rfl ?_
  refine GX12_317 eX12_restsIn_87 rfl ?_
  refine k_topi (nI p) (show ((mtr S n [10])).1 2647 = nI p from mtr_1 (by decide) hac) ?_
  refine k_ialdN (j := p) eX12_restsIn_90 (ar72 _) (by omega) (Nat.le_of_ble_eq_true rfl) ?_
  refine k_topi (nI 7) ((congrFun (show (mtr S n [10]).2.1 72 = B from mtr_2 (by decide) hbk) p).trans hB) ?_
  refine k_iload_n eX12_restsIn_91 rfl ?_
  refine cV1 (M' := MX12_worksIn) eX12_restsIn_92 mX12_314 wX12_worksIn vX12_worksIn ⟨_, _, _, rfl, rfl, rfl⟩ rfl (pX12_worksIn_7_7 (S := (mtr S n [10])) (n := (n + 1)) (p := p) (nb := nb) (mtr_1 (by decide) hac) (mtr_2 (by decide) hbk) (mtr_R hran) (by omega) hpp hB (x) hnb) (by decide) (Nat.le_of_ble_eq_true rfl) ?_
  refine k_heap (h2 := hp (mtr S n [10, 41, 1])) (congrArg hp (mtr_app [10] S n [41, 1]).symm) ?_
  refine k_iconst (v := nI 2) eX12_restsIn_95 (by decide) ?_
  refine k_imul eX12_restsIn_96 ?_
  refine k_ireturn eX12_restsIn_97 rfl rfl ?_
  exact ⟨rfl, rfl⟩
set_option maxHeartbeats 400000 in
theorem pX12_restsIn_7_2 {S : k_S} {B : Nat → Int32} {n p : Nat} {nb : Int32} (hac : S.1 2647 = nI p) (hbk : S.2.1 72 = B) (hran : S.1 2629 = nI n) (hn : n + 4 ≤ 24) (hpp : p < 50) (hB : B p = nI 7) (x : Int32) (hnb : nI p = nb) : Sp 6 0 0 MX12_restsIn [.ref 52, .int (nI 2), .int (x)] (hp S) (Rt (some (.int ((-((((x + nI 1) + nb) * nI 2)))))) (hp (mtr S n [30, 10, 41, 1]))) := by
  refine Sp_of (by decide +kernel) (Nat.le_of_ble_eq_true rfl) ?_
  show AW none MX12_restsIn 6 0 0 0 [.ref 52, .int (nI 2), .int (x), .null] [] (hp S) _
  refine k_iload_n eX12_restsIn_0 rfl ?_
  refine k_iconst (v := nI 2) eX12_restsIn_1 (by decide) ?_
  refine k_icmp_neN 22 eX12_restsIn_2 (by decide) (by omega) (by omega) (fun c_2 => by exfalso; omega) (fun c_2 => ?_)
  refine k_aload_n eX12_restsIn_5 rfl ?_
  refine k_bipush (v := nI 30) eX12_restsIn_6 (by decide) ?_
  refine cV0 (M' := MX12_runs) eX12_restsIn_8 mX12_308 wX12_runs vX12_runs ⟨_, _, _, rfl, rfl, rfl⟩ rfl (pX12_runs (S := S) (n := n) hran (by omega) 30) (by decide) (Nat.le_of_ble_eq_true rfl) ?_
  
  refine k_aload_n eX12_restsIn_11 rfl ?_
  refine k_iload_n eX12_restsIn_12 rfl ?_
  refine cS1 (M' := MX12_above) eX12_restsIn_13 mX12_311 wX12_above sX12_above rfl (pX12_above2) (by decide) (Nat.le_of_ble_eq_true rfl) ?_
  refine k_iload_n eX12_restsIn_16 rfl ?_
  refine cV1 (M' := MX12_restsIn) eX12_restsIn_17 mX12_320 wX12_restsIn vX12_restsIn ⟨_, _, _, rfl, rfl, rfl⟩ rfl (pX12_restsIn_7_0 (S := (mtr S n [30])) (n := (n + 1)) (p := p) (nb := nb) (mtr_1 (by decide) hac) (mtr_2 (by decide) hbk) (mtr_R hran) (by omega) hpp hB (x) hnb) (by decide) (Nat.le_of_ble_eq_true rfl) ?_
  refine k_heap (h2 := hp (mtr S n [30, 10, 41, 1])) (congrArg hp (mtr_app [30] S n [10, 41, 1]).symm) ?_
  refine k_ineg eX12_restsIn_20 ?_
  refine k_ireturn eX12_restsIn_21 rfl rfl ?_
  exact ⟨rfl, rfl⟩
set_option maxHeartbeats 400000 in
theorem pX12_restsIn_7_3 {S : k_S} {B : Nat → Int32} {n p : Nat} {nb : Int32} (hac : S.1 2647 = nI p) (hbk : S.2.1 72 = B) (hran : S.1 2629 = nI n) (hn : n + 4 ≤ 24) (hpp : p < 50) (hB : B p = nI 7) (x : Int32) (hnb : nI p = nb) : Sp 7 0 0 MX12_restsIn [.ref 52, .int (nI 3), .int (x)] (hp S) (Rt (some (.int ((-((((x + nI 1) + nb) * nI 2)))))) (hp (mtr S n [30, 10, 41, 1]))) := by
  refine Sp_of (by decide +kernel) (Nat.le_of_ble_eq_true rfl) ?_
  show AW none MX12_restsIn 7 0 0 0 [.ref 52, .int (nI 3), .int (x), .null] [] (hp S) _
  refine k_iload_n eX12_restsIn_0 rfl ?_
  refine k_iconst (v := nI 2) eX12_restsIn_1 (by decide) ?_
  refine k_icmp_neN 22 eX12_restsIn_2 (by decide) (by omega) (by omega) (fun c_2 => ?_) (fun c_2 => by exfalso; omega)
  refine k_iload_n eX12_restsIn_22 rfl ?_
  refine k_bipush (v := nI 7) eX12_restsIn_23 (by decide) ?_
  refine k_icmp_neN 61 eX12_restsIn_25 (by decide) (by omega) (by omega) (fun c_25 => ?_) (fun c_25 => by exfalso; omega)
  refine k_iload_n eX12_restsIn_61 rfl ?_
  refine k_if_leN 75 eX12_restsIn_62 (by decide) (by omega) (fun c_62 => by exfalso; omega) (fun c_62 => ?_)
  refine k_aload_n eX12_restsIn_65 rfl ?_
  refine k_iload_n eX12_restsIn_66 rfl ?_
  refine cS1 (M' := MX12_above) eX12_restsIn_67 mX12_311 wX12_above sX12_above rfl (pX12_above3) (by decide) (Nat.le_of_ble_eq_true rfl) ?_
  refine k_iload_n eX12_restsIn_70 rfl ?_
  refine cV1 (M' := MX12_restsIn) eX12_restsIn_71 mX12_320 wX12_restsIn vX12_restsIn ⟨_, _, _, rfl, rfl, rfl⟩ rfl (pX12_restsIn_7_2 (S := S) (n := n) (p := p) (nb := nb) hac hbk hran (by omega) hpp hB (x) hnb) (by decide) (Nat.le_of_ble_eq_true rfl) ?_
  
  refine k_ireturn eX12_restsIn_74 rfl rfl ?_
  exact ⟨rfl, rfl⟩
set_option maxHeartbeats 400000 in
theorem pX12_countsIn_7_0 {S : k_S} {B : Nat → Int32} {n p : Nat} {nb : Int32} (hac : S.1 2647 = nI p) (hbk : S.2.1 72 = B) (hran : S.1 2629 = nI n) (hn : n + 1 ≤ 24) (hpp : p < 50) (hB : B p = nI 7) (x : Int32) (hnb : nI p = nb) : Sp 1 0 0 MX12_countsIn [.ref 52, .int (nI 0), .int (x)] (hp S) (Rt (some (.int ((x ^^^ nb)))) (hp (mtr S n [11]))) := by
  refine Sp_of (by decide +kernel) (Nat.le_of_ble_eq_true rfl) ?_
  show AW none MX12_countsIn 1 0 0 0 [.ref 52, .int (nI 0), .int (x), .null] [] (hp S) _
  refine k_iload_n eX12_countsIn_0 rfl ?_
  refine k_iconst (v := nI 3) eX12_countsIn_1 (by decide) ?_
  refine k_icmp_neN 23 eX12_countsIn_2 (by decide) (by omega) (by omega) (fun c_2 => ?_) (fun c_2 => by exfalso; omega)
  refine k_iload_n eX12_countsIn_23 rfl ?_
  refine k_iconst (v := nI 4) eX12_countsIn_24 (by decide) ?_
  refine k_icmp_neN 61 eX12_countsIn_25 (by decide) (by omega) (by omega) (fun c_25 => ?_) (fun c_25 => by exfalso; omega)
  refine k_iload_n eX12_countsIn_61 rfl ?_
  refine k_if_leN 75 eX12_countsIn_62 (by decide) (by omega) (fun c_62 => ?_) (fun c_62 => by exfalso; omega)
  refine k_aload_n eX12_countsIn_75 rfl ?_
  refine k_bipush (v := nI 11) eX12_countsIn_76 (by decide) ?_
  refine cV0 (M' := MX12_runs) eX12_countsIn_78 mX12_308 wX12_runs vX12_runs ⟨_, _, _, rfl, rfl, rfl⟩ rfl (pX12_runs (S := S) (n := n) hran (by omega) 11) (by decide) (Nat.le_of_ble_eq_true rfl) ?_
  
  refine k_iload_n eX12_countsIn_81 rfl ?_
  refine k_aload_n eX12_countsIn_82 rfl ?_
  refine GX12_317 eX12_countsIn_83 rfl ?_
  refine k_topi (nI p) (show ((mtr S n [11])).1 2647 = nI p from mtr_1 (by decide) hac) ?_
  refine k_topi (nb) hnb ?_
  refine k_ixor eX12_countsIn_86 ?_
  refine k_ireturn eX12_countsIn_87 rfl rfl ?_
  exact ⟨rfl, rfl⟩
set_option maxHeartbeats 400000 in
theorem pX12_countsIn_7_2 {S : k_S} {B : Nat → Int32} {n p : Nat} {nb : Int32} (hac : S.1 2647 = nI p) (hbk : S.2.1 72 = B) (hran : S.1 2629 = nI n) (hn : n + 1 ≤ 24) (hpp : p < 50) (hB : B p = nI 7) (x : Int32) (hnb : nI p = nb) : Sp 2 0 0 MX12_countsIn [.ref 52, .int (nI 2), .int (x)] (hp S) (Rt (some (.int ((x ^^^ nb)))) (hp (mtr S n [11]))) := by
  refine Sp_of (by decide +kernel) (Nat.le_of_ble_eq_true rfl) ?_
  show AW none MX12_countsIn 2 0 0 0 [.ref 52, .int (nI 2), .int (x), .null] [] (hp S) _
  refine k_iload_n eX12_countsIn_0 rfl ?_
  refine k_iconst (v := nI 3) eX12_countsIn_1 (by decide) ?_
  refine k_icmp_neN 23 eX12_countsIn_2 (by decide) (by omega) (by omega) (fun c_2 => ?_) (fun c_2 => by exfalso; omega)
  refine k_iload_n eX12_countsIn_23 rfl ?_
  refine k_iconst (v := nI 4) eX12_countsIn_24 (by decide) ?_
  refine k_icmp_neN 61 eX12_countsIn_25 (by decide) (by omega) (by omega) (fun c_25 => ?_) (fun c_25 => by exfalso; omega)
  refine k_iload_n eX12_countsIn_61 rfl ?_
  refine k_if_leN 75 eX12_countsIn_62 (by decide) (by omega) (fun c_62 => by exfalso; omega) (fun c_62 => ?_)
  refine k_aload_n eX12_countsIn_65 rfl ?_
  refine k_iload_n eX12_countsIn_66 rfl ?_
  refine cS1 (M' := MX12_above) eX12_countsIn_67 mX12_311 wX12_above sX12_above rfl (pX12_above2) (by decide) (Nat.le_of_ble_eq_true rfl) ?_
  refine k_iload_n eX12_countsIn_70 rfl ?_
  refine cV1 (M' := MX12_countsIn) eX12_countsIn_71 mX12_323 wX12_countsIn vX12_countsIn ⟨_, _, _, rfl, rfl, rfl⟩ rfl (pX12_countsIn_7_0 (S := S) (n := n) (p := p) (nb := nb) hac hbk hran (by omega) hpp hB (x) hnb) (by decide) (Nat.le_of_ble_eq_true rfl) ?_
  
  refine k_ireturn eX12_countsIn_74 rfl rfl ?_
  exact ⟨rfl, rfl⟩
set_option maxHeartbeats 400000 in
theorem pX12_countsIn_7_3 {S : k_S} {B : Nat → Int32} {n p : Nat} {nb : Int32} (hac : S.1 2647 = nI p) (hbk : S.2.1 72 = B) (hran : S.1 2629 = nI n) (hn : n + 2 ≤ 24) (hpp : p < 50) (hB : B p = nI 7) (x : Int32) (hnb : nI p = nb) : Sp 3 0 0 MX12_countsIn [.ref 52, .int (nI 3), .int (x)] (hp S) (Rt (some (.int (((x ^^^ nb) * nI 3)))) (hp (mtr S n [40, 11]))) := by
  refine Sp_of (by decide +kernel) (Nat.le_of_ble_eq_true rfl) ?_
  show AW none MX12_countsIn 3 0 0 0 [.ref 52, .int (nI 3), .int (x), .null] [] (hp S) _
  refine k_iload_n eX12_countsIn_0 rfl ?_
  refine k_iconst (v := nI 3) eX12_countsIn_1 (by decide) ?_
  refine k_icmp_neN 23 eX12_countsIn_2 (by decide) (by omega) (by omega) (fun c_2 => by exfalso; omega) (fun c_2 => ?_)
  refine k_aload_n eX12_countsIn_5 rfl ?_
  refine k_bipush (v := nI 40) eX12_countsIn_6 (by decide) ?_
  refine cV0 (M' := MX12_runs) eX12_countsIn_8 mX12_308 wX12_runs vX12_runs ⟨_, _, _, rfl, rfl, rfl⟩ rfl (pX12_runs (S := S) (n := n) hran (by omega) 40) (by decide) (Nat.le_of_ble_eq_true rfl) ?_
  
  refine k_aload_n eX12_countsIn_11 rfl ?_
  refine k_iload_n eX12_countsIn_12 rfl ?_
  refine cS1 (M' := MX12_above) eX12_countsIn_13 mX12_311 wX12_above sX12_above rfl (pX12_above3) (by decide) (Nat.le_of_ble_eq_true rfl) ?_
  refine k_iload_n eX12_countsIn_16 rfl ?_
  refine cV1 (M' := MX12_countsIn) eX12_countsIn_17 mX12_323 wX12_countsIn vX12_countsIn ⟨_, _, _, rfl, rfl, rfl⟩ rfl (pX12_countsIn_7_2 (S := (mtr S n [40])) (n := (n + 1)) (p := p) (nb := nb) (mtr_1 (by decide) hac) (mtr_2 (by decide) hbk) (mtr_R hran) (by omega) hpp hB (x) hnb) (by decide) (Nat.le_of_ble_eq_true rfl) ?_
  refine k_heap (h2 := hp (mtr S n [40, 11])) (congrArg hp (mtr_app [40] S n [11]).symm) ?_
  refine k_iconst (v := nI 3) eX12_countsIn_20 (by decide) ?_
  refine k_imul eX12_countsIn_21 ?_
  refine k_ireturn eX12_countsIn_22 rfl rfl ?_
  exact ⟨rfl, rfl⟩
set_option maxHeartbeats 400000 in
theorem pX12_countsIn_7_7 {S : k_S} {B : Nat → Int32} {n p : Nat} {nb : Int32} (hac : S.1 2647 = nI p) (hbk : S.2.1 72 = B) (hran : S.1 2629 = nI n) (hn : n + 2 ≤ 24) (hpp : p < 50) (hB : B p = nI 7) (x : Int32) (hnb : nI p = nb) : Sp 4 0 0 MX12_countsIn [.ref 52, .int (nI 7), .int (x)] (hp S) (Rt (some (.int (((x ^^^ nb) * nI 3)))) (hp (mtr S n [40, 11]))) := by
  refine Sp_of (by decide +kernel) (Nat.le_of_ble_eq_true rfl) ?_
  show AW none MX12_countsIn 4 0 0 0 [.ref 52, .int (nI 7), .int (x), .null] [] (hp S) _
  refine k_iload_n eX12_countsIn_0 rfl ?_
  refine k_iconst (v := nI 3) eX12_countsIn_1 (by decide) ?_
  refine k_icmp_neN 23 eX12_countsIn_2 (by decide) (by omega) (by omega) (fun c_2 => ?_) (fun c_2 => by exfalso; omega)
  refine k_iload_n eX12_countsIn_23 rfl ?_
  refine k_iconst (v := nI 4) eX12_countsIn_24 (by decide) ?_
  refine k_icmp_neN 61 eX12_countsIn_25 (by decide) (by omega) (by omega) (fun c_25 => ?_) (fun c_25 => by exfalso; omega)
  refine k_iload_n eX12_countsIn_61 rfl ?_
  refine k_if_leN 75 eX12_countsIn_62 (by decide) (by omega) (fun c_62 => by exfalso; omega) (fun c_62 => ?_)
  refine k_aload_n eX12_countsIn_65 rfl ?_
  refine k_iload_n eX12_countsIn_66 rfl ?_
  refine cS1 (M' := MX12_above) eX12_countsIn_67 mX12_311 wX12_above sX12_above rfl (pX12_above7) (by decide) (Nat.le_of_ble_eq_true rfl) ?_
  refine k_iload_n eX12_countsIn_70 rfl ?_
  refine cV1 (M' := MX12_countsIn) eX12_countsIn_71 mX12_323 wX12_countsIn vX12_countsIn ⟨_, _, _, rfl, rfl, rfl⟩ rfl (pX12_countsIn_7_3 (S := S) (n := n) (p := p) (nb := nb) hac hbk hran (by omega) hpp hB (x) hnb) (by decide) (Nat.le_of_ble_eq_true rfl) ?_
  
  refine k_ireturn eX12_countsIn_74 rfl rfl ?_
  exact ⟨rfl, rfl⟩
set_option maxHeartbeats 400000 in
theorem pX12_restsIn_7_7 {S : k_S} {B : Nat → Int32} {n p : Nat} {nb : Int32} (hac : S.1 2647 = nI p) (hbk : S.2.1 72 = B) (hran : S.1 2629 = nI n) (hn : n + 7 ≤ 24) (hpp : p < 50) (hB : B p = nI 7) (x : Int32) (hnb : nI p = nb) : Sp 8 0 0 MX12_restsIn [.ref 52, .int (nI 7), .int (x)] (hp S) (Rt (some (.int (((-((((x + nI 1) + nb) * nI 2))) + (((nI 2) ^^^ nb) * nI 3))))) (hp (mtr S n [80, 30, 10, 41, 1, 40, 11]))) := by
  refine Sp_of (by decide +kernel) (Nat.le_of_ble_eq_true rfl) ?_
  show AW none MX12_restsIn 8 0 0 0 [.ref 52, .int (nI 7), .int (x), .null] [] (hp S) _
  refine k_iload_n eX12_restsIn_0 rfl ?_
  refine k_iconst (v := nI 2) eX12_restsIn_1 (by decide) ?_
  refine k_icmp_neN 22 eX12_restsIn_2 (by decide) (by omega) (by omega) (fun c_2 => ?_) (fun c_2 => by exfalso; omega)
  refine k_iload_n eX12_restsIn_22 rfl ?_
  refine k_bipush (v := nI 7) eX12_restsIn_23 (by decide) ?_
  refine k_icmp_neN 61 eX12_restsIn_25 (by decide) (by omega) (by omega) (fun c_25 => by exfalso; omega) (fun c_25 => ?_)
  refine k_aload_n eX12_restsIn_28 rfl ?_
  refine k_bipush (v := nI 80) eX12_restsIn_29 (by decide) ?_
  refine cV0 (M' := MX12_runs) eX12_restsIn_31 mX12_308 wX12_runs vX12_runs ⟨_, _, _, rfl, rfl, rfl⟩ rfl (pX12_runs (S := S) (n := n) hran (by omega) 80) (by decide) (Nat.le_of_ble_eq_true rfl) ?_
  
  refine k_aload_n eX12_restsIn_34 rfl ?_
  refine k_iload_n eX12_restsIn_35 rfl ?_
  refine cS1 (M' := MX12_above) eX12_restsIn_36 mX12_311 wX12_above sX12_above rfl (pX12_above7) (by decide) (Nat.le_of_ble_eq_true rfl) ?_
  refine k_iload_n eX12_restsIn_39 rfl ?_
  refine cV1 (M' := MX12_restsIn) eX12_restsIn_40 mX12_320 wX12_restsIn vX12_restsIn ⟨_, _, _, rfl, rfl, rfl⟩ rfl (pX12_restsIn_7_3 (S := (mtr S n [80])) (n := (n + 1)) (p := p) (nb := nb) (mtr_1 (by decide) hac) (mtr_2 (by decide) hbk) (mtr_R hran) (by omega) hpp hB (x) hnb) (by decide) (Nat.le_of_ble_eq_true rfl) ?_
  refine k_heap (h2 := hp (mtr S n [80, 30, 10, 41, 1])) (congrArg hp (mtr_app [80] S n [30, 10, 41, 1]).symm) ?_
  refine k_istore_n (L2 := [_, _, _, _]) eX12_restsIn_43 (Nat.le_of_ble_eq_true rfl) rfl ?_
  refine k_iload_n eX12_restsIn_44 rfl ?_
  refine k_aload_n eX12_restsIn_45 rfl ?_
  refine k_aload_n eX12_restsIn_46 rfl ?_
  refine GX12_74 eX12_restsIn_47 rfl ?_
  refine k_aload_n eX12_restsIn_50 rfl ?_
  refine GX12_317 eX12_restsIn_51 rfl ?_
  refine k_topi (nI p) (show ((mtr S n [80, 30, 10, 41, 1])).1 2647 = nI p from mtr_1 (by decide) hac) ?_
  refine k_ialdN (j := p) eX12_restsIn_54 (ar72 _) (by omega) (Nat.le_of_ble_eq_true rfl) ?_
  refine k_topi (nI 7) ((congrFun (show (mtr S n [80, 30, 10, 41, 1]).2.1 72 = B from mtr_2 (by decide) hbk) p).trans hB) ?_
  refine k_iconst (v := nI 2) eX12_restsIn_55 (by decide) ?_
  refine cV1 (M' := MX12_countsIn) eX12_restsIn_56 mX12_323 wX12_countsIn vX12_countsIn ⟨_, _, _, rfl, rfl, rfl⟩ rfl (pX12_countsIn_7_7 (S := (mtr S n [80, 30, 10, 41, 1])) (n := (n + 5)) (p := p) (nb := nb) (mtr_1 (by decide) hac) (mtr_2 (by decide) hbk) (mtr_R hran) (by omega) hpp hB (nI 2) hnb) (by decide) (Nat.le_of_ble_eq_true rfl) ?_
  refine k_heap (h2 := hp (mtr S n [80, 30, 10, 41, 1, 40, 11])) (congrArg hp (mtr_app [80, 30, 10, 41, 1] S n [40, 11]).symm) ?_
  refine k_iadd eX12_restsIn_59 ?_
  refine k_ireturn eX12_restsIn_60 rfl rfl ?_
  exact ⟨rfl, rfl⟩
set_option maxHeartbeats 400000 in
theorem pX12_tells_7_0 {S : k_S} {B : Nat → Int32} {n p : Nat} {nb : Int32} (hac : S.1 2647 = nI p) (hbk : S.2.1 72 = B) (hran : S.1 2629 = nI n) (hn : n + 10 ≤ 24) (hpp : p < 50) (hB : B p = nI 7) (x : Int32) (hnb : nI p = nb) : Sp 9 0 0 MX12_tells [.ref 52, .int (nI 0), .int (x)] (hp S) (Rt (some (.int ((((-((((x + nI 1) + nb) * nI 2))) + (((nI 2) ^^^ nb) * nI 3)) - (((nI 1) ^^^ nb) * nI 3))))) (hp (mtr S n [2, 80, 30, 10, 41, 1, 40, 11, 40, 11]))) := by
  refine Sp_of (by decide +kernel) (Nat.le_of_ble_eq_true rfl) ?_
  show AW none MX12_tells 9 0 0 0 [.ref 52, .int (nI 0), .int (x), .null] [] (hp S) _
  refine k_iload_n eX12_tells_0 rfl ?_
  refine k_iconst (v := nI 5) eX12_tells_1 (by decide) ?_
  refine k_icmp_neN 23 eX12_tells_2 (by decide) (by omega) (by omega) (fun c_2 => ?_) (fun c_2 => by exfalso; omega)
  refine k_iload_n eX12_tells_23 rfl ?_
  refine k_bipush (v := nI 7) eX12_tells_24 (by decide) ?_
  refine k_icmp_neN 47 eX12_tells_26 (by decide) (by omega) (by omega) (fun c_26 => ?_) (fun c_26 => by exfalso; omega)
  refine k_iload_n eX12_tells_47 rfl ?_
  refine k_if_leN 61 eX12_tells_48 (by decide) (by omega) (fun c_48 => ?_) (fun c_48 => by exfalso; omega)
  refine k_aload_n eX12_tells_61 rfl ?_
  refine k_iconst (v := nI 2) eX12_tells_62 (by decide) ?_
  refine cV0 (M' := MX12_runs) eX12_tells_63 mX12_308 wX12_runs vX12_runs ⟨_, _, _, rfl, rfl, rfl⟩ rfl (pX12_runs (S := S) (n := n) hran (by omega) 2) (by decide) (Nat.le_of_ble_eq_true rfl) ?_
  
  refine k_aload_n eX12_tells_66 rfl ?_
  refine k_aload_n eX12_tells_67 rfl ?_
  refine GX12_74 eX12_tells_68 rfl ?_
  refine k_aload_n eX12_tells_71 rfl ?_
  refine GX12_317 eX12_tells_72 rfl ?_
  refine k_topi (nI p) (show ((mtr S n [2])).1 2647 = nI p from mtr_1 (by decide) hac) ?_
  refine k_ialdN (j := p) eX12_tells_75 (ar72 _) (by omega) (Nat.le_of_ble_eq_true rfl) ?_
  refine k_topi (nI 7) ((congrFun (show (mtr S n [2]).2.1 72 = B from mtr_2 (by decide) hbk) p).trans hB) ?_
  refine k_iload_n eX12_tells_76 rfl ?_
  refine cV1 (M' := MX12_restsIn) eX12_tells_77 mX12_320 wX12_restsIn vX12_restsIn ⟨_, _, _, rfl, rfl, rfl⟩ rfl (pX12_restsIn_7_7 (S := (mtr S n [2])) (n := (n + 1)) (p := p) (nb := nb) (mtr_1 (by decide) hac) (mtr_2 (by decide) hbk) (mtr_R hran) (by omega) hpp hB (x) hnb) (by decide) (Nat.le_of_ble_eq_true rfl) ?_
  refine k_heap (h2 := hp (mtr S n [2, 80, 30, 10, 41, 1, 40, 11])) (congrArg hp (mtr_app [2] S n [80, 30, 10, 41, 1, 40, 11]).symm) ?_
  refine k_istore_n (L2 := [_, _, _, _]) eX12_tells_80 (Nat.le_of_ble_eq_true rfl) rfl ?_
  refine k_iload_n eX12_tells_81 rfl ?_
  refine k_aload_n eX12_tells_82 rfl ?_
  refine k_aload_n eX12_tells_83 rfl ?_
  refine GX12_74 eX12_tells_84 rfl ?_
  refine k_aload_n eX12_tells_87 rfl ?_
  refine GX12_317 eX12_tells_88 rfl ?_
  refine k_topi (nI p) (show ((mtr S n [2, 80, 30, 10, 41, 1, 40, 11])).1 2647 = nI p from mtr_1 (by decide) hac) ?_
  refine k_ialdN (j := p) eX12_tells_91 (ar72 _) (by omega) (Nat.le_of_ble_eq_true rfl) ?_
  refine k_topi (nI 7) ((congrFun (show (mtr S n [2, 80, 30, 10, 41, 1, 40, 11]).2.1 72 = B from mtr_2 (by decide) hbk) p).trans hB) ?_
  refine k_iconst (v := nI 1) eX12_tells_92 (by decide) ?_
  refine cV1 (M' := MX12_countsIn) eX12_tells_93 mX12_323 wX12_countsIn vX12_countsIn ⟨_, _, _, rfl, rfl, rfl⟩ rfl (pX12_countsIn_7_7 (S := (mtr S n [2, 80, 30, 10, 41, 1, 40, 11])) (n := (n + 8)) (p := p) (nb := nb) (mtr_1 (by decide) hac) (mtr_2 (by decide) hbk) (mtr_R hran) (by omega) hpp hB (nI 1) hnb) (by decide) (Nat.le_of_ble_eq_true rfl) ?_
  refine k_heap (h2 := hp (mtr S n [2, 80, 30, 10, 41, 1, 40, 11, 40, 11])) (congrArg hp (mtr_app [2, 80, 30, 10, 41, 1, 40, 11] S n [40, 11]).symm) ?_
  refine k_isub eX12_tells_96 ?_
  refine k_ireturn eX12_tells_97 rfl rfl ?_
  exact ⟨rfl, rfl⟩
set_option maxHeartbeats 400000 in
theorem pX12_tells_7_2 {S : k_S} {B : Nat → Int32} {n p : Nat} {nb : Int32} (hac : S.1 2647 = nI p) (hbk : S.2.1 72 = B) (hran : S.1 2629 = nI n) (hn : n + 10 ≤ 24) (hpp : p < 50) (hB : B p = nI 7) (x : Int32) (hnb : nI p = nb) : Sp 10 0 0 MX12_tells [.ref 52, .int (nI 2), .int (x)] (hp S) (Rt (some (.int ((((-((((x + nI 1) + nb) * nI 2))) + (((nI 2) ^^^ nb) * nI 3)) - (((nI 1) ^^^ nb) * nI 3))))) (hp (mtr S n [2, 80, 30, 10, 41, 1, 40, 11, 40, 11]))) := by
  refine Sp_of (by decide +kernel) (Nat.le_of_ble_eq_true rfl) ?_
  show AW none MX12_tells 10 0 0 0 [.ref 52, .int (nI 2), .int (x), .null] [] (hp S) _
  refine k_iload_n eX12_tells_0 rfl ?_
  refine k_iconst (v := nI 5) eX12_tells_1 (by decide) ?_
  refine k_icmp_neN 23 eX12_tells_2 (by decide) (by omega) (by omega) (fun c_2 => ?_) (fun c_2 => by exfalso; omega)
  refine k_iload_n eX12_tells_23 rfl ?_
  refine k_bipush (v := nI 7) eX12_tells_24 (by decide) ?_
  refine k_icmp_neN 47 eX12_tells_26 (by decide) (by omega) (by omega) (fun c_26 => ?_) (fun c_26 => by exfalso; omega)
  refine k_iload_n eX12_tells_47 rfl ?_
  refine k_if_leN 61 eX12_tells_48 (by decide) (by omega) (fun c_48 => by exfalso; omega) (fun c_48 => ?_)
  refine k_aload_n eX12_tells_51 rfl ?_
  refine k_iload_n eX12_tells_52 rfl ?_
  refine cS1 (M' := MX12_above) eX12_tells_53 mX12_311 wX12_above sX12_above rfl (pX12_above2) (by decide) (Nat.le_of_ble_eq_true rfl) ?_
  refine k_iload_n eX12_tells_56 rfl ?_
  refine cV1 (M' := MX12_tells) eX12_tells_57 mX12_326 wX12_tells vX12_tells ⟨_, _, _, rfl, rfl, rfl⟩ rfl (pX12_tells_7_0 (S := S) (n := n) (p := p) (nb := nb) hac hbk hran (by omega) hpp hB (x) hnb) (by decide) (Nat.le_of_ble_eq_true rfl) ?_
  
  refine k_ireturn eX12_tells_60 rfl rfl ?_
  exact ⟨rfl, rfl⟩
set_option maxHeartbeats 400000 in
theorem pX12_tells_7_3 {S : k_S} {B : Nat → Int32} {n p : Nat} {nb : Int32} (hac : S.1 2647 = nI p) (hbk : S.2.1 72 = B) (hran : S.1 2629 = nI n) (hn : n + 10 ≤ 24) (hpp : p < 50) (hB : B p = nI 7) (x : Int32) (hnb : nI p = nb) : Sp 11 0 0 MX12_tells [.ref 52, .int (nI 3), .int (x)] (hp S) (Rt (some (.int ((((-((((x + nI 1) + nb) * nI 2))) + (((nI 2) ^^^ nb) * nI 3)) - (((nI 1) ^^^ nb) * nI 3))))) (hp (mtr S n [2, 80, 30, 10, 41, 1, 40, 11, 40, 11]))) := by
  refine Sp_of (by decide +kernel) (Nat.le_of_ble_eq_true rfl) ?_
  show AW none MX12_tells 11 0 0 0 [.ref 52, .int (nI 3), .int (x), .null] [] (hp S) _
  refine k_iload_n eX12_tells_0 rfl ?_
  refine k_iconst (v := nI 5) eX12_tells_1 (by decide) ?_
  refine k_icmp_neN 23 eX12_tells_2 (by decide) (by omega) (by omega) (fun c_2 => ?_) (fun c_2 => by exfalso; omega)
  refine k_iload_n eX12_tells_23 rfl ?_
  refine k_bipush (v := nI 7) eX12_tells_24 (by decide) ?_
  refine k_icmp_neN 47 eX12_tells_26 (by decide) (by omega) (by omega) (fun c_26 => ?_) (fun c_26 => by exfalso; omega)
  refine k_iload_n eX12_tells_47 rfl ?_
  refine k_if_leN 61 eX12_tells_48 (by decide) (by omega) (fun c_48 => by exfalso; omega) (fun c_48 => ?_)
  refine k_aload_n eX12_tells_51 rfl ?_
  refine k_iload_n eX12_tells_52 rfl ?_
  refine cS1 (M' := MX12_above) eX12_tells_53 mX12_311 wX12_above sX12_above rfl (pX12_above3) (by decide) (Nat.le_of_ble_eq_true rfl) ?_
  refine k_iload_n eX12_tells_56 rfl ?_
  refine cV1 (M' := MX12_tells) eX12_tells_57 mX12_326 wX12_tells vX12_tells ⟨_, _, _, rfl, rfl, rfl⟩ rfl (pX12_tells_7_2 (S := S) (n := n) (p := p) (nb := nb) hac hbk hran (by omega) hpp hB (x) hnb) (by decide) (Nat.le_of_ble_eq_true rfl) ?_
  
  refine k_ireturn eX12_tells_60 rfl rfl ?_
  exact ⟨rfl, rfl⟩
set_option maxHeartbeats 400000 in
theorem pX12_tells_7_7 {S : k_S} {B : Nat → Int32} {n p : Nat} {nb : Int32} (hac : S.1 2647 = nI p) (hbk : S.2.1 72 = B) (hran : S.1 2629 = nI n) (hn : n + 11 ≤ 24) (hpp : p < 50) (hB : B p = nI 7) (x : Int32) (hnb : nI p = nb) : Sp 12 0 0 MX12_tells [.ref 52, .int (nI 7), .int (x)] (hp S) (Rt (some (.int (((((-((((x + nI 1) + nb) * nI 2))) + (((nI 2) ^^^ nb) * nI 3)) - (((nI 1) ^^^ nb) * nI 3)) - nI 1)))) (hp (mtr S n [81, 2, 80, 30, 10, 41, 1, 40, 11, 40, 11]))) := by
  refine Sp_of (by decide +kernel) (Nat.le_of_ble_eq_true rfl) ?_
  show AW none MX12_tells 12 0 0 0 [.ref 52, .int (nI 7), .int (x), .null] [] (hp S) _
  refine k_iload_n eX12_tells_0 rfl ?_
  refine k_iconst (v := nI 5) eX12_tells_1 (by decide) ?_
  refine k_icmp_neN 23 eX12_tells_2 (by decide) (by omega) (by omega) (fun c_2 => ?_) (fun c_2 => by exfalso; omega)
  refine k_iload_n eX12_tells_23 rfl ?_
  refine k_bipush (v := nI 7) eX12_tells_24 (by decide) ?_
  refine k_icmp_neN 47 eX12_tells_26 (by decide) (by omega) (by omega) (fun c_26 => by exfalso; omega) (fun c_26 => ?_)
  refine k_aload_n eX12_tells_29 rfl ?_
  refine k_bipush (v := nI 81) eX12_tells_30 (by decide) ?_
  refine cV0 (M' := MX12_runs) eX12_tells_32 mX12_308 wX12_runs vX12_runs ⟨_, _, _, rfl, rfl, rfl⟩ rfl (pX12_runs (S := S) (n := n) hran (by omega) 81) (by decide) (Nat.le_of_ble_eq_true rfl) ?_
  
  refine k_aload_n eX12_tells_35 rfl ?_
  refine k_iload_n eX12_tells_36 rfl ?_
  refine cS1 (M' := MX12_above) eX12_tells_37 mX12_311 wX12_above sX12_above rfl (pX12_above7) (by decide) (Nat.le_of_ble_eq_true rfl) ?_
  refine k_iload_n eX12_tells_40 rfl ?_
  refine cV1 (M' := MX12_tells) eX12_tells_41 mX12_326 wX12_tells vX12_tells ⟨_, _, _, rfl, rfl, rfl⟩ rfl (pX12_tells_7_3 (S := (mtr S n [81])) (n := (n + 1)) (p := p) (nb := nb) (mtr_1 (by decide) hac) (mtr_2 (by decide) hbk) (mtr_R hran) (by omega) hpp hB (x) hnb) (by decide) (Nat.le_of_ble_eq_true rfl) ?_
  refine k_heap (h2 := hp (mtr S n [81, 2, 80, 30, 10, 41, 1, 40, 11, 40, 11])) (congrArg hp (mtr_app [81] S n [2, 80, 30, 10, 41, 1, 40, 11, 40, 11]).symm) ?_
  refine k_iconst (v := nI 1) eX12_tells_44 (by decide) ?_
  refine k_isub eX12_tells_45 ?_
  refine k_ireturn eX12_tells_46 rfl rfl ?_
  exact ⟨rfl, rfl⟩
def mAcS (S : k_S) (p K s : Nat) : k_S := mtr (si (si S 2629 (nI 0)) 2647 (nI p)) 0 (acT K s)
def mKdOk (S : k_S) (kn : Nat) : Prop := S.1 2627 = nI kn ∧ kn ≤ 50 ∧ ∀ j, j < kn → ∃ K, K < 8 ∧ S.2.1 72 j = nI K
set_option maxHeartbeats 400000 in
theorem pX12_act_0_0 {S : k_S} {p kn : Nat} (hpk : S.1 2627 = nI kn) (hpp : p < kn) (hkn : kn ≤ 50) (hk : S.2.1 72 p = nI 0) (x : Int32) : Sp 13 0 0 MX12_act [.ref 52, .int (nI p), .int (nI 0), .int (x)] (hp S) (Rt (some (.int (acV 0 0 x (nI p)))) (hp (mAcS S p 0 0))) := by
  refine Sp_of (by decide +kernel) (Nat.le_of_ble_eq_true rfl) ?_
  show AW none MX12_act 13 0 0 0 [.ref 52, .int (nI p), .int (nI 0), .int (x), .null] [] (hp S) _
  refine k_aload_n eX12_act_0 rfl ?_
  refine k_iconst (v := nI 0) eX12_act_1 (by decide) ?_
  refine PX12_305 eX12_act_2 rfl ?_
  refine k_iload_n eX12_act_5 rfl ?_
  refine k_iconst (v := nI 0) eX12_act_6 (by decide) ?_
  refine k_aload_n eX12_act_7 rfl ?_
  refine GX12_302 eX12_act_8 rfl ?_
  refine k_topi (nI kn) hpk ?_
  refine k_iconst (v := nI 1) eX12_act_11 (by decide) ?_
  refine k_isub eX12_act_12 ?_
  refine cS1 (M' := MX12_in) eX12_act_13 mX12_120 wX12_in sX12_in rfl (pX12_in (nI p) (nI 0) ((nI kn - nI 1))) (by decide) (Nat.le_of_ble_eq_true rfl) ?_
  refine k_ifb_eq 28 eX12_act_16 (by decide) (fun c_16 => by exact absurd ((pIn_W (k := kn) (by omega) _).mpr ⟨nI_pos' (by omega), nI_lt hpp (by omega)⟩) c_16) (fun c_16 => ?_)
  refine k_iload_n eX12_act_19 rfl ?_
  refine k_iconst (v := nI 0) eX12_act_20 (by decide) ?_
  refine k_iconst (v := nI 3) eX12_act_21 (by decide) ?_
  refine cS1 (M' := MX12_in) eX12_act_22 mX12_120 wX12_in sX12_in rfl (pX12_in (nI 0) (nI 0) (nI 3)) (by decide) (Nat.le_of_ble_eq_true rfl) ?_
  refine k_ifb_ne 30 eX12_act_25 (by decide) (fun c_25 => ?_) (fun c_25 => by exact absurd ⟨by decide, by decide⟩ c_25)
  refine k_aload_n eX12_act_30 rfl ?_
  refine k_iload_n eX12_act_31 rfl ?_
  refine PX12_317 eX12_act_32 rfl ?_
  refine k_aload_n eX12_act_35 rfl ?_
  refine GX12_74 eX12_act_36 rfl ?_
  refine k_iload_n eX12_act_39 rfl ?_
  refine k_ialdN (j := p) eX12_act_40 (ar72 _) (by omega) (Nat.le_of_ble_eq_true rfl) ?_
  refine k_topi (nI 0) hk ?_
  refine k_istore (L2 := [_, _, _, _, _]) eX12_act_41 (Nat.le_of_ble_eq_true rfl) rfl ?_
  refine k_iload_n eX12_act_43 rfl ?_
  refine k_if_neN 57 eX12_act_44 (by decide) (by omega) (fun c_44 => by exfalso; omega) (fun c_44 => ?_)
  refine k_aload_n eX12_act_47 rfl ?_
  refine k_iload eX12_act_48 rfl ?_
  refine k_iload_n eX12_act_50 rfl ?_
  refine cV1 (M' := MX12_worksIn) eX12_act_51 mX12_314 wX12_worksIn vX12_worksIn ⟨_, _, _, rfl, rfl, rfl⟩ rfl (pX12_worksIn_0_0 (S := (si (si S 2629 (nI 0)) 2647 (nI p))) (B := S.2.1 72) (n := 0) (p := p) (nb := nI p) rfl rfl rfl (by decide) (by omega) hk x rfl) (by decide) (Nat.le_of_ble_eq_true rfl) ?_
  refine k_goto 94 eX12_act_54 (by decide) ?_
  refine k_ireturn eX12_act_94 rfl rfl ?_
  exact ⟨rfl, rfl⟩
set_option maxHeartbeats 400000 in
theorem pX12_act_0_1 {S : k_S} {p kn : Nat} (hpk : S.1 2627 = nI kn) (hpp : p < kn) (hkn : kn ≤ 50) (hk : S.2.1 72 p = nI 0) (x : Int32) : Sp 13 0 0 MX12_act [.ref 52, .int (nI p), .int (nI 1), .int (x)] (hp S) (Rt (some (.int (acV 0 1 x (nI p)))) (hp (mAcS S p 0 1))) := by
  refine Sp_of (by decide +kernel) (Nat.le_of_ble_eq_true rfl) ?_
  show AW none MX12_act 13 0 0 0 [.ref 52, .int (nI p), .int (nI 1), .int (x), .null] [] (hp S) _
  refine k_aload_n eX12_act_0 rfl ?_
  refine k_iconst (v := nI 0) eX12_act_1 (by decide) ?_
  refine PX12_305 eX12_act_2 rfl ?_
  refine k_iload_n eX12_act_5 rfl ?_
  refine k_iconst (v := nI 0) eX12_act_6 (by decide) ?_
  refine k_aload_n eX12_act_7 rfl ?_
  refine GX12_302 eX12_act_8 rfl ?_
  refine k_topi (nI kn) hpk ?_
  refine k_iconst (v := nI 1) eX12_act_11 (by decide) ?_
  refine k_isub eX12_act_12 ?_
  refine cS1 (M' := MX12_in) eX12_act_13 mX12_120 wX12_in sX12_in rfl (pX12_in (nI p) (nI 0) ((nI kn - nI 1))) (by decide) (Nat.le_of_ble_eq_true rfl) ?_
  refine k_ifb_eq 28 eX12_act_16 (by decide) (fun c_16 => by exact absurd ((pIn_W (k := kn) (by omega) _).mpr ⟨nI_pos' (by omega), nI_lt hpp (by omega)⟩) c_16) (fun c_16 => ?_)
  refine k_iload_n eX12_act_19 rfl ?_
  refine k_iconst (v := nI 0) eX12_act_20 (by decide) ?_
  refine k_iconst (v := nI 3) eX12_act_21 (by decide) ?_
  refine cS1 (M' := MX12_in) eX12_act_22 mX12_120 wX12_in sX12_in rfl (pX12_in (nI 1) (nI 0) (nI 3)) (by decide) (Nat.le_of_ble_eq_true rfl) ?_
  refine k_ifb_ne 30 eX12_act_25 (by decide) (fun c_25 => ?_) (fun c_25 => by exact absurd ⟨by decide, by decide⟩ c_25)
  refine k_aload_n eX12_act_30 rfl ?_
  refine k_iload_n eX12_act_31 rfl ?_
  refine PX12_317 eX12_act_32 rfl ?_
  refine k_aload_n eX12_act_35 rfl ?_
  refine GX12_74 eX12_act_36 rfl ?_
  refine k_iload_n eX12_act_39 rfl ?_
  refine k_ialdN (j := p) eX12_act_40 (ar72 _) (by omega) (Nat.le_of_ble_eq_true rfl) ?_
  refine k_topi (nI 0) hk ?_
  refine k_istore (L2 := [_, _, _, _, _]) eX12_act_41 (Nat.le_of_ble_eq_true rfl) rfl ?_
  refine k_iload_n eX12_act_43 rfl ?_
  refine k_if_neN 57 eX12_act_44 (by decide) (by omega) (fun c_44 => ?_) (fun c_44 => by exfalso; omega)
  refine k_iload_n eX12_act_57 rfl ?_
  refine k_iconst (v := nI 1) eX12_act_58 (by decide) ?_
  refine k_icmp_neN 72 eX12_act_59 (by decide) (by omega) (by omega) (fun c_59 => by exfalso; omega) (fun c_59 => ?_)
  refine k_aload_n eX12_act_62 rfl ?_
  refine k_iload eX12_act_63 rfl ?_
  refine k_iload_n eX12_act_65 rfl ?_
  refine cV1 (M' := MX12_restsIn) eX12_act_66 mX12_320 wX12_restsIn vX12_restsIn ⟨_, _, _, rfl, rfl, rfl⟩ rfl (pX12_restsIn_0_0 (S := (si (si S 2629 (nI 0)) 2647 (nI p))) (B := S.2.1 72) (n := 0) (p := p) (nb := nI p) rfl rfl rfl (by decide) (by omega) hk x rfl) (by decide) (Nat.le_of_ble_eq_true rfl) ?_
  refine k_goto 94 eX12_act_69 (by decide) ?_
  refine k_ireturn eX12_act_94 rfl rfl ?_
  exact ⟨rfl, rfl⟩
set_option maxHeartbeats 400000 in
theorem pX12_act_0_2 {S : k_S} {p kn : Nat} (hpk : S.1 2627 = nI kn) (hpp : p < kn) (hkn : kn ≤ 50) (hk : S.2.1 72 p = nI 0) (x : Int32) : Sp 13 0 0 MX12_act [.ref 52, .int (nI p), .int (nI 2), .int (x)] (hp S) (Rt (some (.int (acV 0 2 x (nI p)))) (hp (mAcS S p 0 2))) := by
  refine Sp_of (by decide +kernel) (Nat.le_of_ble_eq_true rfl) ?_
  show AW none MX12_act 13 0 0 0 [.ref 52, .int (nI p), .int (nI 2), .int (x), .null] [] (hp S) _
  refine k_aload_n eX12_act_0 rfl ?_
  refine k_iconst (v := nI 0) eX12_act_1 (by decide) ?_
  refine PX12_305 eX12_act_2 rfl ?_
  refine k_iload_n eX12_act_5 rfl ?_
  refine k_iconst (v := nI 0) eX12_act_6 (by decide) ?_
  refine k_aload_n eX12_act_7 rfl ?_
  refine GX12_302 eX12_act_8 rfl ?_
  refine k_topi (nI kn) hpk ?_
  refine k_iconst (v := nI 1) eX12_act_11 (by decide) ?_
  refine k_isub eX12_act_12 ?_
  refine cS1 (M' := MX12_in) eX12_act_13 mX12_120 wX12_in sX12_in rfl (pX12_in (nI p) (nI 0) ((nI kn - nI 1))) (by decide) (Nat.le_of_ble_eq_true rfl) ?_
  refine k_ifb_eq 28 eX12_act_16 (by decide) (fun c_16 => by exact absurd ((pIn_W (k := kn) (by omega) _).mpr ⟨nI_pos' (by omega), nI_lt hpp (by omega)⟩) c_16) (fun c_16 => ?_)
  refine k_iload_n eX12_act_19 rfl ?_
  refine k_iconst (v := nI 0) eX12_act_20 (by decide) ?_
  refine k_iconst (v := nI 3) eX12_act_21 (by decide) ?_
  refine cS1 (M' := MX12_in) eX12_act_22 mX12_120 wX12_in sX12_in rfl (pX12_in (nI 2) (nI 0) (nI 3)) (by decide) (Nat.le_of_ble_eq_true rfl) ?_
  refine k_ifb_ne 30 eX12_act_25 (by decide) (fun c_25 => ?_) (fun c_25 => by exact absurd ⟨by decide, by decide⟩ c_25)
  refine k_aload_n eX12_act_30 rfl ?_
  refine k_iload_n eX12_act_31 rfl ?_
  refine PX12_317 eX12_act_32 rfl ?_
  refine k_aload_n eX12_act_35 rfl ?_
  refine GX12_74 eX12_act_36 rfl ?_
  refine k_iload_n eX12_act_39 rfl ?_
  refine k_ialdN (j := p) eX12_act_40 (ar72 _) (by omega) (Nat.le_of_ble_eq_true rfl) ?_
  refine k_topi (nI 0) hk ?_
  refine k_istore (L2 := [_, _, _, _, _]) eX12_act_41 (Nat.le_of_ble_eq_true rfl) rfl ?_
  refine k_iload_n eX12_act_43 rfl ?_
  refine k_if_neN 57 eX12_act_44 (by decide) (by omega) (fun c_44 => ?_) (fun c_44 => by exfalso; omega)
  refine k_iload_n eX12_act_57 rfl ?_
  refine k_iconst (v := nI 1) eX12_act_58 (by decide) ?_
  refine k_icmp_neN 72 eX12_act_59 (by decide) (by omega) (by omega) (fun c_59 => ?_) (fun c_59 => by exfalso; omega)
  refine k_iload_n eX12_act_72 rfl ?_
  refine k_iconst (v := nI 2) eX12_act_73 (by decide) ?_
  refine k_icmp_neN 87 eX12_act_74 (by decide) (by omega) (by omega) (fun c_74 => by exfalso; omega) (fun c_74 => ?_)
  refine k_aload_n eX12_act_77 rfl ?_
  refine k_iload eX12_act_78 rfl ?_
  refine k_iload_n eX12_act_80 rfl ?_
  refine cV1 (M' := MX12_countsIn) eX12_act_81 mX12_323 wX12_countsIn vX12_countsIn ⟨_, _, _, rfl, rfl, rfl⟩ rfl (pX12_countsIn_0_0 (S := (si (si S 2629 (nI 0)) 2647 (nI p))) (B := S.2.1 72) (n := 0) (p := p) (nb := nI p) rfl rfl rfl (by decide) (by omega) hk x rfl) (by decide) (Nat.le_of_ble_eq_true rfl) ?_
  refine k_goto 94 eX12_act_84 (by decide) ?_
  refine k_ireturn eX12_act_94 rfl rfl ?_
  exact ⟨rfl, rfl⟩
set_option maxHeartbeats 400000 in
theorem pX12_act_0_3 {S : k_S} {p kn : Nat} (hpk : S.1 2627 = nI kn) (hpp : p < kn) (hkn : kn ≤ 50) (hk : S.2.1 72 p = nI 0) (x : Int32) : Sp 13 0 0 MX12_act [.ref 52, .int (nI p), .int (nI 3), .int (x)] (hp S) (Rt (some (.int (acV 0 3 x (nI p)))) (hp (mAcS S p 0 3))) := by
  refine Sp_of (by decide +kernel) (Nat.le_of_ble_eq_true rfl) ?_
  show AW none MX12_act 13 0 0 0 [.ref 52, .int (nI p), .int (nI 3), .int (x), .null] [] (hp S) _
  refine k_aload_n eX12_act_0 rfl ?_
  refine k_iconst (v := nI 0) eX12_act_1 (by decide) ?_
  refine PX12_305 eX12_act_2 rfl ?_
  refine k_iload_n eX12_act_5 rfl ?_
  refine k_iconst (v := nI 0) eX12_act_6 (by decide) ?_
  refine k_aload_n eX12_act_7 rfl ?_
  refine GX12_302 eX12_act_8 rfl ?_
  refine k_topi (nI kn) hpk ?_
  refine k_iconst (v := nI 1) eX12_act_11 (by decide) ?_
  refine k_isub eX12_act_12 ?_
  refine cS1 (M' := MX12_in) eX12_act_13 mX12_120 wX12_in sX12_in rfl (pX12_in (nI p) (nI 0) ((nI kn - nI 1))) (by decide) (Nat.le_of_ble_eq_true rfl) ?_
  refine k_ifb_eq 28 eX12_act_16 (by decide) (fun c_16 => by exact absurd ((pIn_W (k := kn) (by omega) _).mpr ⟨nI_pos' (by omega), nI_lt hpp (by omega)⟩) c_16) (fun c_16 => ?_)
  refine k_iload_n eX12_act_19 rfl ?_
  refine k_iconst (v := nI 0) eX12_act_20 (by decide) ?_
  refine k_iconst (v := nI 3) eX12_act_21 (by decide) ?_
  refine cS1 (M' := MX12_in) eX12_act_22 mX12_120 wX12_in sX12_in rfl (pX12_in (nI 3) (nI 0) (nI 3)) (by decide) (Nat.le_of_ble_eq_true rfl) ?_
  refine k_ifb_ne 30 eX12_act_25 (by decide) (fun c_25 => ?_) (fun c_25 => by exact absurd ⟨by decide, by decide⟩ c_25)
  refine k_aload_n eX12_act_30 rfl ?_
  refine k_iload_n eX12_act_31 rfl ?_
  refine PX12_317 eX12_act_32 rfl ?_
  refine k_aload_n eX12_act_35 rfl ?_
  refine GX12_74 eX12_act_36 rfl ?_
  refine k_iload_n eX12_act_39 rfl ?_
  refine k_ialdN (j := p) eX12_act_40 (ar72 _) (by omega) (Nat.le_of_ble_eq_true rfl) ?_
  refine k_topi (nI 0) hk ?_
  refine k_istore (L2 := [_, _, _, _, _]) eX12_act_41 (Nat.le_of_ble_eq_true rfl) rfl ?_
  refine k_iload_n eX12_act_43 rfl ?_
  refine k_if_neN 57 eX12_act_44 (by decide) (by omega) (fun c_44 => ?_) (fun c_44 => by exfalso; omega)
  refine k_iload_n eX12_act_57 rfl ?_
  refine k_iconst (v := nI 1) eX12_act_58 (by decide) ?_
  refine k_icmp_neN 72 eX12_act_59 (by decide) (by omega) (by omega) (fun c_59 => ?_) (fun c_59 => by exfalso; omega)
  refine k_iload_n eX12_act_72 rfl ?_
  refine k_iconst (v := nI 2) eX12_act_73 (by decide) ?_
  refine k_icmp_neN 87 eX12_act_74 (by decide) (by omega) (by omega) (fun c_74 => ?_) (fun c_74 => by exfalso; omega)
  refine k_aload_n eX12_act_87 rfl ?_
  refine k_iload eX12_act_88 rfl ?_
  refine k_iload_n eX12_act_90 rfl ?_
  refine cV1 (M' := MX12_tells) eX12_act_91 mX12_326 wX12_tells vX12_tells ⟨_, _, _, rfl, rfl, rfl⟩ rfl (pX12_tells_0_0 (S := (si (si S 2629 (nI 0)) 2647 (nI p))) (B := S.2.1 72) (n := 0) (p := p) (nb := nI p) rfl rfl rfl (by decide) (by omega) hk x rfl) (by decide) (Nat.le_of_ble_eq_true rfl) ?_
  refine k_ireturn eX12_act_94 rfl rfl ?_
  exact ⟨rfl, rfl⟩
set_option maxHeartbeats 400000 in
theorem pX12_act_1_0 {S : k_S} {p kn : Nat} (hpk : S.1 2627 = nI kn) (hpp : p < kn) (hkn : kn ≤ 50) (hk : S.2.1 72 p = nI 1) (x : Int32) : Sp 13 0 0 MX12_act [.ref 52, .int (nI p), .int (nI 0), .int (x)] (hp S) (Rt (some (.int (acV 1 0 x (nI p)))) (hp (mAcS S p 1 0))) := by
  refine Sp_of (by decide +kernel) (Nat.le_of_ble_eq_true rfl) ?_
  show AW none MX12_act 13 0 0 0 [.ref 52, .int (nI p), .int (nI 0), .int (x), .null] [] (hp S) _
  refine k_aload_n eX12_act_0 rfl ?_
  refine k_iconst (v := nI 0) eX12_act_1 (by decide) ?_
  refine PX12_305 eX12_act_2 rfl ?_
  refine k_iload_n eX12_act_5 rfl ?_
  refine k_iconst (v := nI 0) eX12_act_6 (by decide) ?_
  refine k_aload_n eX12_act_7 rfl ?_
  refine GX12_302 eX12_act_8 rfl ?_
  refine k_topi (nI kn) hpk ?_
  refine k_iconst (v := nI 1) eX12_act_11 (by decide) ?_
  refine k_isub eX12_act_12 ?_
  refine cS1 (M' := MX12_in) eX12_act_13 mX12_120 wX12_in sX12_in rfl (pX12_in (nI p) (nI 0) ((nI kn - nI 1))) (by decide) (Nat.le_of_ble_eq_true rfl) ?_
  refine k_ifb_eq 28 eX12_act_16 (by decide) (fun c_16 => by exact absurd ((pIn_W (k := kn) (by omega) _).mpr ⟨nI_pos' (by omega), nI_lt hpp (by omega)⟩) c_16) (fun c_16 => ?_)
  refine k_iload_n eX12_act_19 rfl ?_
  refine k_iconst (v := nI 0) eX12_act_20 (by decide) ?_
  refine k_iconst (v := nI 3) eX12_act_21 (by decide) ?_
  refine cS1 (M' := MX12_in) eX12_act_22 mX12_120 wX12_in sX12_in rfl (pX12_in (nI 0) (nI 0) (nI 3)) (by decide) (Nat.le_of_ble_eq_true rfl) ?_
  refine k_ifb_ne 30 eX12_act_25 (by decide) (fun c_25 => ?_) (fun c_25 => by exact absurd ⟨by decide, by decide⟩ c_25)
  refine k_aload_n eX12_act_30 rfl ?_
  refine k_iload_n eX12_act_31 rfl ?_
  refine PX12_317 eX12_act_32 rfl ?_
  refine k_aload_n eX12_act_35 rfl ?_
  refine GX12_74 eX12_act_36 rfl ?_
  refine k_iload_n eX12_act_39 rfl ?_
  refine k_ialdN (j := p) eX12_act_40 (ar72 _) (by omega) (Nat.le_of_ble_eq_true rfl) ?_
  refine k_topi (nI 1) hk ?_
  refine k_istore (L2 := [_, _, _, _, _]) eX12_act_41 (Nat.le_of_ble_eq_true rfl) rfl ?_
  refine k_iload_n eX12_act_43 rfl ?_
  refine k_if_neN 57 eX12_act_44 (by decide) (by omega) (fun c_44 => by exfalso; omega) (fun c_44 => ?_)
  refine k_aload_n eX12_act_47 rfl ?_
  refine k_iload eX12_act_48 rfl ?_
  refine k_iload_n eX12_act_50 rfl ?_
  refine cV1 (M' := MX12_worksIn) eX12_act_51 mX12_314 wX12_worksIn vX12_worksIn ⟨_, _, _, rfl, rfl, rfl⟩ rfl (pX12_worksIn_1_1 (S := (si (si S 2629 (nI 0)) 2647 (nI p))) (B := S.2.1 72) (n := 0) (p := p) (nb := nI p) rfl rfl rfl (by decide) (by omega) hk x rfl) (by decide) (Nat.le_of_ble_eq_true rfl) ?_
  refine k_goto 94 eX12_act_54 (by decide) ?_
  refine k_ireturn eX12_act_94 rfl rfl ?_
  exact ⟨rfl, rfl⟩
set_option maxHeartbeats 400000 in
theorem pX12_act_1_1 {S : k_S} {p kn : Nat} (hpk : S.1 2627 = nI kn) (hpp : p < kn) (hkn : kn ≤ 50) (hk : S.2.1 72 p = nI 1) (x : Int32) : Sp 13 0 0 MX12_act [.ref 52, .int (nI p), .int (nI 1), .int (x)] (hp S) (Rt (some (.int (acV 1 1 x (nI p)))) (hp (mAcS S p 1 1))) := by
  refine Sp_of (by decide +kernel) (Nat.le_of_ble_eq_true rfl) ?_
  show AW none MX12_act 13 0 0 0 [.ref 52, .int (nI p), .int (nI 1), .int (x), .null] [] (hp S) _
  refine k_aload_n eX12_act_0 rfl ?_
  refine k_iconst (v := nI 0) eX12_act_1 (by decide) ?_
  refine PX12_305 eX12_act_2 rfl ?_
  refine k_iload_n eX12_act_5 rfl ?_
  refine k_iconst (v := nI 0) eX12_act_6 (by decide) ?_
  refine k_aload_n eX12_act_7 rfl ?_
  refine GX12_302 eX12_act_8 rfl ?_
  refine k_topi (nI kn) hpk ?_
  refine k_iconst (v := nI 1) eX12_act_11 (by decide) ?_
  refine k_isub eX12_act_12 ?_
  refine cS1 (M' := MX12_in) eX12_act_13 mX12_120 wX12_in sX12_in rfl (pX12_in (nI p) (nI 0) ((nI kn - nI 1))) (by decide) (Nat.le_of_ble_eq_true rfl) ?_
  refine k_ifb_eq 28 eX12_act_16 (by decide) (fun c_16 => by exact absurd ((pIn_W (k := kn) (by omega) _).mpr ⟨nI_pos' (by omega), nI_lt hpp (by omega)⟩) c_16) (fun c_16 => ?_)
  refine k_iload_n eX12_act_19 rfl ?_
  refine k_iconst (v := nI 0) eX12_act_20 (by decide) ?_
  refine k_iconst (v := nI 3) eX12_act_21 (by decide) ?_
  refine cS1 (M' := MX12_in) eX12_act_22 mX12_120 wX12_in sX12_in rfl (pX12_in (nI 1) (nI 0) (nI 3)) (by decide) (Nat.le_of_ble_eq_true rfl) ?_
  refine k_ifb_ne 30 eX12_act_25 (by decide) (fun c_25 => ?_) (fun c_25 => by exact absurd ⟨by decide, by decide⟩ c_25)
  refine k_aload_n eX12_act_30 rfl ?_
  refine k_iload_n eX12_act_31 rfl ?_
  refine PX12_317 eX12_act_32 rfl ?_
  refine k_aload_n eX12_act_35 rfl ?_
  refine GX12_74 eX12_act_36 rfl ?_
  refine k_iload_n eX12_act_39 rfl ?_
  refine k_ialdN (j := p) eX12_act_40 (ar72 _) (by omega) (Nat.le_of_ble_eq_true rfl) ?_
  refine k_topi (nI 1) hk ?_
  refine k_istore (L2 := [_, _, _, _, _]) eX12_act_41 (Nat.le_of_ble_eq_true rfl) rfl ?_
  refine k_iload_n eX12_act_43 rfl ?_
  refine k_if_neN 57 eX12_act_44 (by decide) (by omega) (fun c_44 => ?_) (fun c_44 => by exfalso; omega)
  refine k_iload_n eX12_act_57 rfl ?_
  refine k_iconst (v := nI 1) eX12_act_58 (by decide) ?_
  refine k_icmp_neN 72 eX12_act_59 (by decide) (by omega) (by omega) (fun c_59 => by exfalso; omega) (fun c_59 => ?_)
  refine k_aload_n eX12_act_62 rfl ?_
  refine k_iload eX12_act_63 rfl ?_
  refine k_iload_n eX12_act_65 rfl ?_
  refine cV1 (M' := MX12_restsIn) eX12_act_66 mX12_320 wX12_restsIn vX12_restsIn ⟨_, _, _, rfl, rfl, rfl⟩ rfl (pX12_restsIn_1_1 (S := (si (si S 2629 (nI 0)) 2647 (nI p))) (B := S.2.1 72) (n := 0) (p := p) (nb := nI p) rfl rfl rfl (by decide) (by omega) hk x rfl) (by decide) (Nat.le_of_ble_eq_true rfl) ?_
  refine k_goto 94 eX12_act_69 (by decide) ?_
  refine k_ireturn eX12_act_94 rfl rfl ?_
  exact ⟨rfl, rfl⟩
set_option maxHeartbeats 400000 in
theorem pX12_act_1_2 {S : k_S} {p kn : Nat} (hpk : S.1 2627 = nI kn) (hpp : p < kn) (hkn : kn ≤ 50) (hk : S.2.1 72 p = nI 1) (x : Int32) : Sp 13 0 0 MX12_act [.ref 52, .int (nI p), .int (nI 2), .int (x)] (hp S) (Rt (some (.int (acV 1 2 x (nI p)))) (hp (mAcS S p 1 2))) := by
  refine Sp_of (by decide +kernel) (Nat.le_of_ble_eq_true rfl) ?_
  show AW none MX12_act 13 0 0 0 [.ref 52, .int (nI p), .int (nI 2), .int (x), .null] [] (hp S) _
  refine k_aload_n eX12_act_0 rfl ?_
  refine k_iconst (v := nI 0) eX12_act_1 (by decide) ?_
  refine PX12_305 eX12_act_2 rfl ?_
  refine k_iload_n eX12_act_5 rfl ?_
  refine k_iconst (v := nI 0) eX12_act_6 (by decide) ?_
  refine k_aload_n eX12_act_7 rfl ?_
  refine GX12_302 eX12_act_8 rfl ?_
  refine k_topi (nI kn) hpk ?_
  refine k_iconst (v := nI 1) eX12_act_11 (by decide) ?_
  refine k_isub eX12_act_12 ?_
  refine cS1 (M' := MX12_in) eX12_act_13 mX12_120 wX12_in sX12_in rfl (pX12_in (nI p) (nI 0) ((nI kn - nI 1))) (by decide) (Nat.le_of_ble_eq_true rfl) ?_
  refine k_ifb_eq 28 eX12_act_16 (by decide) (fun c_16 => by exact absurd ((pIn_W (k := kn) (by omega) _).mpr ⟨nI_pos' (by omega), nI_lt hpp (by omega)⟩) c_16) (fun c_16 => ?_)
  refine k_iload_n eX12_act_19 rfl ?_
  refine k_iconst (v := nI 0) eX12_act_20 (by decide) ?_
  refine k_iconst (v := nI 3) eX12_act_21 (by decide) ?_
  refine cS1 (M' := MX12_in) eX12_act_22 mX12_120 wX12_in sX12_in rfl (pX12_in (nI 2) (nI 0) (nI 3)) (by decide) (Nat.le_of_ble_eq_true rfl) ?_
  refine k_ifb_ne 30 eX12_act_25 (by decide) (fun c_25 => ?_) (fun c_25 => by exact absurd ⟨by decide, by decide⟩ c_25)
  refine k_aload_n eX12_act_30 rfl ?_
  refine k_iload_n eX12_act_31 rfl ?_
  refine PX12_317 eX12_act_32 rfl ?_
  refine k_aload_n eX12_act_35 rfl ?_
  refine GX12_74 eX12_act_36 rfl ?_
  refine k_iload_n eX12_act_39 rfl ?_
  refine k_ialdN (j := p) eX12_act_40 (ar72 _) (by omega) (Nat.le_of_ble_eq_true rfl) ?_
  refine k_topi (nI 1) hk ?_
  refine k_istore (L2 := [_, _, _, _, _]) eX12_act_41 (Nat.le_of_ble_eq_true rfl) rfl ?_
  refine k_iload_n eX12_act_43 rfl ?_
  refine k_if_neN 57 eX12_act_44 (by decide) (by omega) (fun c_44 => ?_) (fun c_44 => by exfalso; omega)
  refine k_iload_n eX12_act_57 rfl ?_
  refine k_iconst (v := nI 1) eX12_act_58 (by decide) ?_
  refine k_icmp_neN 72 eX12_act_59 (by decide) (by omega) (by omega) (fun c_59 => ?_) (fun c_59 => by exfalso; omega)
  refine k_iload_n eX12_act_72 rfl ?_
  refine k_iconst (v := nI 2) eX12_act_73 (by decide) ?_
  refine k_icmp_neN 87 eX12_act_74 (by decide) (by omega) (by omega) (fun c_74 => by exfalso; omega) (fun c_74 => ?_)
  refine k_aload_n eX12_act_77 rfl ?_
  refine k_iload eX12_act_78 rfl ?_
  refine k_iload_n eX12_act_80 rfl ?_
  refine cV1 (M' := MX12_countsIn) eX12_act_81 mX12_323 wX12_countsIn vX12_countsIn ⟨_, _, _, rfl, rfl, rfl⟩ rfl (pX12_countsIn_1_1 (S := (si (si S 2629 (nI 0)) 2647 (nI p))) (B := S.2.1 72) (n := 0) (p := p) (nb := nI p) rfl rfl rfl (by decide) (by omega) hk x rfl) (by decide) (Nat.le_of_ble_eq_true rfl) ?_
  refine k_goto 94 eX12_act_84 (by decide) ?_
  refine k_ireturn eX12_act_94 rfl rfl ?_
  exact ⟨rfl, rfl⟩
set_option maxHeartbeats 400000 in
theorem pX12_act_1_3 {S : k_S} {p kn : Nat} (hpk : S.1 2627 = nI kn) (hpp : p < kn) (hkn : kn ≤ 50) (hk : S.2.1 72 p = nI 1) (x : Int32) : Sp 13 0 0 MX12_act [.ref 52, .int (nI p), .int (nI 3), .int (x)] (hp S) (Rt (some (.int (acV 1 3 x (nI p)))) (hp (mAcS S p 1 3))) := by
  refine Sp_of (by decide +kernel) (Nat.le_of_ble_eq_true rfl) ?_
  show AW none MX12_act 13 0 0 0 [.ref 52, .int (nI p), .int (nI 3), .int (x), .null] [] (hp S) _
  refine k_aload_n eX12_act_0 rfl ?_
  refine k_iconst (v := nI 0) eX12_act_1 (by decide) ?_
  refine PX12_305 eX12_act_2 rfl ?_
  refine k_iload_n eX12_act_5 rfl ?_
  refine k_iconst (v := nI 0) eX12_act_6 (by decide) ?_
  refine k_aload_n eX12_act_7 rfl ?_
  refine GX12_302 eX12_act_8 rfl ?_
  refine k_topi (nI kn) hpk ?_
  refine k_iconst (v := nI 1) eX12_act_11 (by decide) ?_
  refine k_isub eX12_act_12 ?_
  refine cS1 (M' := MX12_in) eX12_act_13 mX12_120 wX12_in sX12_in rfl (pX12_in (nI p) (nI 0) ((nI kn - nI 1))) (by decide) (Nat.le_of_ble_eq_true rfl) ?_
  refine k_ifb_eq 28 eX12_act_16 (by decide) (fun c_16 => by exact absurd ((pIn_W (k := kn) (by omega) _).mpr ⟨nI_pos' (by omega), nI_lt hpp (by omega)⟩) c_16) (fun c_16 => ?_)
  refine k_iload_n eX12_act_19 rfl ?_
  refine k_iconst (v := nI 0) eX12_act_20 (by decide) ?_
  refine k_iconst (v := nI 3) eX12_act_21 (by decide) ?_
  refine cS1 (M' := MX12_in) eX12_act_22 mX12_120 wX12_in sX12_in rfl (pX12_in (nI 3) (nI 0) (nI 3)) (by decide) (Nat.le_of_ble_eq_true rfl) ?_
  refine k_ifb_ne 30 eX12_act_25 (by decide) (fun c_25 => ?_) (fun c_25 => by exact absurd ⟨by decide, by decide⟩ c_25)
  refine k_aload_n eX12_act_30 rfl ?_
  refine k_iload_n eX12_act_31 rfl ?_
  refine PX12_317 eX12_act_32 rfl ?_
  refine k_aload_n eX12_act_35 rfl ?_
  refine GX12_74 eX12_act_36 rfl ?_
  refine k_iload_n eX12_act_39 rfl ?_
  refine k_ialdN (j := p) eX12_act_40 (ar72 _) (by omega) (Nat.le_of_ble_eq_true rfl) ?_
  refine k_topi (nI 1) hk ?_
  refine k_istore (L2 := [_, _, _, _, _]) eX12_act_41 (Nat.le_of_ble_eq_true rfl) rfl ?_
  refine k_iload_n eX12_act_43 rfl ?_
  refine k_if_neN 57 eX12_act_44 (by decide) (by omega) (fun c_44 => ?_) (fun c_44 => by exfalso; omega)
  refine k_iload_n eX12_act_57 rfl ?_
  refine k_iconst (v := nI 1) eX12_act_58 (by decide) ?_
  refine k_icmp_neN 72 eX12_act_59 (by decide) (by omega) (by omega) (fun c_59 => ?_) (fun c_59 => by exfalso; omega)
  refine k_iload_n eX12_act_72 rfl ?_
  refine k_iconst (v := nI 2) eX12_act_73 (by decide) ?_
  refine k_icmp_neN 87 eX12_act_74 (by decide) (by omega) (by omega) (fun c_74 => ?_) (fun c_74 => by exfalso; omega)
  refine k_aload_n eX12_act_87 rfl ?_
  refine k_iload eX12_act_88 rfl ?_
  refine k_iload_n eX12_act_90 rfl ?_
  refine cV1 (M' := MX12_tells) eX12_act_91 mX12_326 wX12_tells vX12_tells ⟨_, _, _, rfl, rfl, rfl⟩ rfl (pX12_tells_1_1 (S := (si (si S 2629 (nI 0)) 2647 (nI p))) (B := S.2.1 72) (n := 0) (p := p) (nb := nI p) rfl rfl rfl (by decide) (by omega) hk x rfl) (by decide) (Nat.le_of_ble_eq_true rfl) ?_
  refine k_ireturn eX12_act_94 rfl rfl ?_
  exact ⟨rfl, rfl⟩
set_option maxHeartbeats 400000 in
theorem pX12_act_2_0 {S : k_S} {p kn : Nat} (hpk : S.1 2627 = nI kn) (hpp : p < kn) (hkn : kn ≤ 50) (hk : S.2.1 72 p = nI 2) (x : Int32) : Sp 13 0 0 MX12_act [.ref 52, .int (nI p), .int (nI 0), .int (x)] (hp S) (Rt (some (.int (acV 2 0 x (nI p)))) (hp (mAcS S p 2 0))) := by
  refine Sp_of (by decide +kernel) (Nat.le_of_ble_eq_true rfl) ?_
  show AW none MX12_act 13 0 0 0 [.ref 52, .int (nI p), .int (nI 0), .int (x), .null] [] (hp S) _
  refine k_aload_n eX12_act_0 rfl ?_
  refine k_iconst (v := nI 0) eX12_act_1 (by decide) ?_
  refine PX12_305 eX12_act_2 rfl ?_
  refine k_iload_n eX12_act_5 rfl ?_
  refine k_iconst (v := nI 0) eX12_act_6 (by decide) ?_
  refine k_aload_n eX12_act_7 rfl ?_
  refine GX12_302 eX12_act_8 rfl ?_
  refine k_topi (nI kn) hpk ?_
  refine k_iconst (v := nI 1) eX12_act_11 (by decide) ?_
  refine k_isub eX12_act_12 ?_
  refine cS1 (M' := MX12_in) eX12_act_13 mX12_120 wX12_in sX12_in rfl (pX12_in (nI p) (nI 0) ((nI kn - nI 1))) (by decide) (Nat.le_of_ble_eq_true rfl) ?_
  refine k_ifb_eq 28 eX12_act_16 (by decide) (fun c_16 => by exact absurd ((pIn_W (k := kn) (by omega) _).mpr ⟨nI_pos' (by omega), nI_lt hpp (by omega)⟩) c_16) (fun c_16 => ?_)
  refine k_iload_n eX12_act_19 rfl ?_
  refine k_iconst (v := nI 0) eX12_act_20 (by decide) ?_
  refine k_iconst (v := nI 3) eX12_act_21 (by decide) ?_
  refine cS1 (M' := MX12_in) eX12_act_22 mX12_120 wX12_in sX12_in rfl (pX12_in (nI 0) (nI 0) (nI 3)) (by decide) (Nat.le_of_ble_eq_true rfl) ?_
  refine k_ifb_ne 30 eX12_act_25 (by decide) (fun c_25 => ?_) (fun c_25 => by exact absurd ⟨by decide, by decide⟩ c_25)
  refine k_aload_n eX12_act_30 rfl ?_
  refine k_iload_n eX12_act_31 rfl ?_
  refine PX12_317 eX12_act_32 rfl ?_
  refine k_aload_n eX12_act_35 rfl ?_
  refine GX12_74 eX12_act_36 rfl ?_
  refine k_iload_n eX12_act_39 rfl ?_
  refine k_ialdN (j := p) eX12_act_40 (ar72 _) (by omega) (Nat.le_of_ble_eq_true rfl) ?_
  refine k_topi (nI 2) hk ?_
  refine k_istore (L2 := [_, _, _, _, _]) eX12_act_41 (Nat.le_of_ble_eq_true rfl) rfl ?_
  refine k_iload_n eX12_act_43 rfl ?_
  refine k_if_neN 57 eX12_act_44 (by decide) (by omega) (fun c_44 => by exfalso; omega) (fun c_44 => ?_)
  refine k_aload_n eX12_act_47 rfl ?_
  refine k_iload eX12_act_48 rfl ?_
  refine k_iload_n eX12_act_50 rfl ?_
  refine cV1 (M' := MX12_worksIn) eX12_act_51 mX12_314 wX12_worksIn vX12_worksIn ⟨_, _, _, rfl, rfl, rfl⟩ rfl (pX12_worksIn_2_2 (S := (si (si S 2629 (nI 0)) 2647 (nI p))) (B := S.2.1 72) (n := 0) (p := p) (nb := nI p) rfl rfl rfl (by decide) (by omega) hk x rfl) (by decide) (Nat.le_of_ble_eq_true rfl) ?_
  refine k_goto 94 eX12_act_54 (by decide) ?_
  refine k_ireturn eX12_act_94 rfl rfl ?_
  exact ⟨rfl, rfl⟩
set_option maxHeartbeats 400000 in
theorem pX12_act_2_1 {S : k_S} {p kn : Nat} (hpk : S.1 2627 = nI kn) (hpp : p < kn) (hkn : kn ≤ 50) (hk : S.2.1 72 p = nI 2) (x : Int32) : Sp 13 0 0 MX12_act [.ref 52, .int (nI p), .int (nI 1), .int (x)] (hp S) (Rt (some (.int (acV 2 1 x (nI p)))) (hp (mAcS S p 2 1))) := by
  refine Sp_of (by decide +kernel) (Nat.le_of_ble_eq_true rfl) ?_
  show AW none MX12_act 13 0 0 0 [.ref 52, .int (nI p), .int (nI 1), .int (x), .null] [] (hp S) _
  refine k_aload_n eX12_act_0 rfl ?_
  refine k_iconst (v := nI 0) eX12_act_1 (by decide) ?_
  refine PX12_305 eX12_act_2 rfl ?_
  refine k_iload_n eX12_act_5 rfl ?_
  refine k_iconst (v := nI 0) eX12_act_6 (by decide) ?_
  refine k_aload_n eX12_act_7 rfl ?_
  refine GX12_302 eX12_act_8 rfl ?_
  refine k_topi (nI kn) hpk ?_
  refine k_iconst (v := nI 1) eX12_act_11 (by decide) ?_
  refine k_isub eX12_act_12 ?_
  refine cS1 (M' := MX12_in) eX12_act_13 mX12_120 wX12_in sX12_in rfl (pX12_in (nI p) (nI 0) ((nI kn - nI 1))) (by decide) (Nat.le_of_ble_eq_true rfl) ?_
  refine k_ifb_eq 28 eX12_act_16 (by decide) (fun c_16 => by exact absurd ((pIn_W (k := kn) (by omega) _).mpr ⟨nI_pos' (by omega), nI_lt hpp (by omega)⟩) c_16) (fun c_16 => ?_)
  refine k_iload_n eX12_act_19 rfl ?_
  refine k_iconst (v := nI 0) eX12_act_20 (by decide) ?_
  refine k_iconst (v := nI 3) eX12_act_21 (by decide) ?_
  refine cS1 (M' := MX12_in) eX12_act_22 mX12_120 wX12_in sX12_in rfl (pX12_in (nI 1) (nI 0) (nI 3)) (by decide) (Nat.le_of_ble_eq_true rfl) ?_
  refine k_ifb_ne 30 eX12_act_25 (by decide) (fun c_25 => ?_) (fun c_25 => by exact absurd ⟨by decide, by decide⟩ c_25)
  refine k_aload_n eX12_act_30 rfl ?_
  refine k_iload_n eX12_act_31 rfl ?_
  refine PX12_317 eX12_act_32 rfl ?_
  refine k_aload_n eX12_act_35 rfl ?_
  refine GX12_74 eX12_act_36 rfl ?_
  refine k_iload_n eX12_act_39 rfl ?_
  refine k_ialdN (j := p) eX12_act_40 (ar72 _) (by omega) (Nat.le_of_ble_eq_true rfl) ?_
  refine k_topi (nI 2) hk ?_
  refine k_istore (L2 := [_, _, _, _, _]) eX12_act_41 (Nat.le_of_ble_eq_true rfl) rfl ?_
  refine k_iload_n eX12_act_43 rfl ?_
  refine k_if_neN 57 eX12_act_44 (by decide) (by omega) (fun c_44 => ?_) (fun c_44 => by exfalso; omega)
  refine k_iload_n eX12_act_57 rfl ?_
  refine k_iconst (v := nI 1) eX12_act_58 (by decide) ?_
  refine k_icmp_neN 72 eX12_act_59 (by decide) (by omega) (by omega) (fun c_59 => by exfalso; omega) (fun c_59 => ?_)
  refine k_aload_n eX12_act_62 rfl ?_
  refine k_iload eX12_act_63 rfl ?_
  refine k_iload_n eX12_act_65 rfl ?_
  refine cV1 (M' := MX12_restsIn) eX12_act_66 mX12_320 wX12_restsIn vX12_restsIn ⟨_, _, _, rfl, rfl, rfl⟩ rfl (pX12_restsIn_2_2 (S := (si (si S 2629 (nI 0)) 2647 (nI p))) (B := S.2.1 72) (n := 0) (p := p) (nb := nI p) rfl rfl rfl (by decide) (by omega) hk x rfl) (by decide) (Nat.le_of_ble_eq_true rfl) ?_
  refine k_goto 94 eX12_act_69 (by decide) ?_
  refine k_ireturn eX12_act_94 rfl rfl ?_
  exact ⟨rfl, rfl⟩
set_option maxHeartbeats 400000 in
theorem pX12_act_2_2 {S : k_S} {p kn : Nat} (hpk : S.1 2627 = nI kn) (hpp : p < kn) (hkn : kn ≤ 50) (hk : S.2.1 72 p = nI 2) (x : Int32) : Sp 13 0 0 MX12_act [.ref 52, .int (nI p), .int (nI 2), .int (x)] (hp S) (Rt (some (.int (acV 2 2 x (nI p)))) (hp (mAcS S p 2 2))) := by
  refine Sp_of (by decide +kernel) (Nat.le_of_ble_eq_true rfl) ?_
  show AW none MX12_act 13 0 0 0 [.ref 52, .int (nI p), .int (nI 2), .int (x), .null] [] (hp S) _
  refine k_aload_n eX12_act_0 rfl ?_
  refine k_iconst (v := nI 0) eX12_act_1 (by decide) ?_
  refine PX12_305 eX12_act_2 rfl ?_
  refine k_iload_n eX12_act_5 rfl ?_
  refine k_iconst (v := nI 0) eX12_act_6 (by decide) ?_
  refine k_aload_n eX12_act_7 rfl ?_
  refine GX12_302 eX12_act_8 rfl ?_
  refine k_topi (nI kn) hpk ?_
  refine k_iconst (v := nI 1) eX12_act_11 (by decide) ?_
  refine k_isub eX12_act_12 ?_
  refine cS1 (M' := MX12_in) eX12_act_13 mX12_120 wX12_in sX12_in rfl (pX12_in (nI p) (nI 0) ((nI kn - nI 1))) (by decide) (Nat.le_of_ble_eq_true rfl) ?_
  refine k_ifb_eq 28 eX12_act_16 (by decide) (fun c_16 => by exact absurd ((pIn_W (k := kn) (by omega) _).mpr ⟨nI_pos' (by omega), nI_lt hpp (by omega)⟩) c_16) (fun c_16 => ?_)
  refine k_iload_n eX12_act_19 rfl ?_
  refine k_iconst (v := nI 0) eX12_act_20 (by decide) ?_
  refine k_iconst (v := nI 3) eX12_act_21 (by decide) ?_
  refine cS1 (M' := MX12_in) eX12_act_22 mX12_120 wX12_in sX12_in rfl (pX12_in (nI 2) (nI 0) (nI 3)) (by decide) (Nat.le_of_ble_eq_true rfl) ?_
  refine k_ifb_ne 30 eX12_act_25 (by decide) (fun c_25 => ?_) (fun c_25 => by exact absurd ⟨by decide, by decide⟩ c_25)
  refine k_aload_n eX12_act_30 rfl ?_
  refine k_iload_n eX12_act_31 rfl ?_
  refine PX12_317 eX12_act_32 rfl ?_
  refine k_aload_n eX12_act_35 rfl ?_
  refine GX12_74 eX12_act_36 rfl ?_
  refine k_iload_n eX12_act_39 rfl ?_
  refine k_ialdN (j := p) eX12_act_40 (ar72 _) (by omega) (Nat.le_of_ble_eq_true rfl) ?_
  refine k_topi (nI 2) hk ?_
  refine k_istore (L2 := [_, _, _, _, _]) eX12_act_41 (Nat.le_of_ble_eq_true rfl) rfl ?_
  refine k_iload_n eX12_act_43 rfl ?_
  refine k_if_neN 57 eX12_act_44 (by decide) (by omega) (fun c_44 => ?_) (fun c_44 => by exfalso; omega)
  refine k_iload_n eX12_act_57 rfl ?_
  refine k_iconst (v := nI 1) eX12_act_58 (by decide) ?_
  refine k_icmp_neN 72 eX12_act_59 (by decide) (by omega) (by omega) (fun c_59 => ?_) (fun c_59 => by exfalso; omega)
  refine k_iload_n eX12_act_72 rfl ?_
  refine k_iconst (v := nI 2) eX12_act_73 (by decide) ?_
  refine k_icmp_neN 87 eX12_act_74 (by decide) (by omega) (by omega) (fun c_74 => by exfalso; omega) (fun c_74 => ?_)
  refine k_aload_n eX12_act_77 rfl ?_
  refine k_iload eX12_act_78 rfl ?_
  refine k_iload_n eX12_act_80 rfl ?_
  refine cV1 (M' := MX12_countsIn) eX12_act_81 mX12_323 wX12_countsIn vX12_countsIn ⟨_, _, _, rfl, rfl, rfl⟩ rfl (pX12_countsIn_2_2 (S := (si (si S 2629 (nI 0)) 2647 (nI p))) (B := S.2.1 72) (n := 0) (p := p) (nb := nI p) rfl rfl rfl (by decide) (by omega) hk x rfl) (by decide) (Nat.le_of_ble_eq_true rfl) ?_
  refine k_goto 94 eX12_act_84 (by decide) ?_
  refine k_ireturn eX12_act_94 rfl rfl ?_
  exact ⟨rfl, rfl⟩
set_option maxHeartbeats 400000 in
theorem pX12_act_2_3 {S : k_S} {p kn : Nat} (hpk : S.1 2627 = nI kn) (hpp : p < kn) (hkn : kn ≤ 50) (hk : S.2.1 72 p = nI 2) (x : Int32) : Sp 13 0 0 MX12_act [.ref 52, .int (nI p), .int (nI 3), .int (x)] (hp S) (Rt (some (.int (acV 2 3 x (nI p)))) (hp (mAcS S p 2 3))) := by
  refine Sp_of (by decide +kernel) (Nat.le_of_ble_eq_true rfl) ?_
  show AW none MX12_act 13 0 0 0 [.ref 52, .int (nI p), .int (nI 3), .int (x), .null] [] (hp S) _
  refine k_aload_n eX12_act_0 rfl ?_
  refine k_iconst (v := nI 0) eX12_act_1 (by decide) ?_
  refine PX12_305 eX12_act_2 rfl ?_
  refine k_iload_n eX12_act_5 rfl ?_
  refine k_iconst (v := nI 0) eX12_act_6 (by decide) ?_
  refine k_aload_n eX12_act_7 rfl ?_
  refine GX12_302 eX12_act_8 rfl ?_
  refine k_topi (nI kn) hpk ?_
  refine k_iconst (v := nI 1) eX12_act_11 (by decide) ?_
  refine k_isub eX12_act_12 ?_
  refine cS1 (M' := MX12_in) eX12_act_13 mX12_120 wX12_in sX12_in rfl (pX12_in (nI p) (nI 0) ((nI kn - nI 1))) (by decide) (Nat.le_of_ble_eq_true rfl) ?_
  refine k_ifb_eq 28 eX12_act_16 (by decide) (fun c_16 => by exact absurd ((pIn_W (k := kn) (by omega) _).mpr ⟨nI_pos' (by omega), nI_lt hpp (by omega)⟩) c_16) (fun c_16 => ?_)
  refine k_iload_n eX12_act_19 rfl ?_
  refine k_iconst (v := nI 0) eX12_act_20 (by decide) ?_
  refine k_iconst (v := nI 3) eX12_act_21 (by decide) ?_
  refine cS1 (M' := MX12_in) eX12_act_22 mX12_120 wX12_in sX12_in rfl (pX12_in (nI 3) (nI 0) (nI 3)) (by decide) (Nat.le_of_ble_eq_true rfl) ?_
  refine k_ifb_ne 30 eX12_act_25 (by decide) (fun c_25 => ?_) (fun c_25 => by exact absurd ⟨by decide, by decide⟩ c_25)
  refine k_aload_n eX12_act_30 rfl ?_
  refine k_iload_n eX12_act_31 rfl ?_
  refine PX12_317 eX12_act_32 rfl ?_
  refine k_aload_n eX12_act_35 rfl ?_
  refine GX12_74 eX12_act_36 rfl ?_
  refine k_iload_n eX12_act_39 rfl ?_
  refine k_ialdN (j := p) eX12_act_40 (ar72 _) (by omega) (Nat.le_of_ble_eq_true rfl) ?_
  refine k_topi (nI 2) hk ?_
  refine k_istore (L2 := [_, _, _, _, _]) eX12_act_41 (Nat.le_of_ble_eq_true rfl) rfl ?_
  refine k_iload_n eX12_act_43 rfl ?_
  refine k_if_neN 57 eX12_act_44 (by decide) (by omega) (fun c_44 => ?_) (fun c_44 => by exfalso; omega)
  refine k_iload_n eX12_act_57 rfl ?_
  refine k_iconst (v := nI 1) eX12_act_58 (by decide) ?_
  refine k_icmp_neN 72 eX12_act_59 (by decide) (by omega) (by omega) (fun c_59 => ?_) (fun c_59 => by exfalso; omega)
  refine k_iload_n eX12_act_72 rfl ?_
  refine k_iconst (v := nI 2) eX12_act_73 (by decide) ?_
  refine k_icmp_neN 87 eX12_act_74 (by decide) (by omega) (by omega) (fun c_74 => ?_) (fun c_74 => by exfalso; omega)
  refine k_aload_n eX12_act_87 rfl ?_
  refine k_iload eX12_act_88 rfl ?_
  refine k_iload_n eX12_act_90 rfl ?_
  refine cV1 (M' := MX12_tells) eX12_act_91 mX12_326 wX12_tells vX12_tells ⟨_, _, _, rfl, rfl, rfl⟩ rfl (pX12_tells_2_2 (S := (si (si S 2629 (nI 0)) 2647 (nI p))) (B := S.2.1 72) (n := 0) (p := p) (nb := nI p) rfl rfl rfl (by decide) (by omega) hk x rfl) (by decide) (Nat.le_of_ble_eq_true rfl) ?_
  refine k_ireturn eX12_act_94 rfl rfl ?_
  exact ⟨rfl, rfl⟩
set_option maxHeartbeats 400000 in
theorem pX12_act_3_0 {S : k_S} {p kn : Nat} (hpk : S.1 2627 = nI kn) (hpp : p < kn) (hkn : kn ≤ 50) (hk : S.2.1 72 p = nI 3) (x : Int32) : Sp 13 0 0 MX12_act [.ref 52, .int (nI p), .int (nI 0), .int (x)] (hp S) (Rt (some (.int (acV 3 0 x (nI p)))) (hp (mAcS S p 3 0))) := by
  refine Sp_of (by decide +kernel) (Nat.le_of_ble_eq_true rfl) ?_
  show AW none MX12_act 13 0 0 0 [.ref 52, .int (nI p), .int (nI 0), .int (x), .null] [] (hp S) _
  refine k_aload_n eX12_act_0 rfl ?_
  refine k_iconst (v := nI 0) eX12_act_1 (by decide) ?_
  refine PX12_305 eX12_act_2 rfl ?_
  refine k_iload_n eX12_act_5 rfl ?_
  refine k_iconst (v := nI 0) eX12_act_6 (by decide) ?_
  refine k_aload_n eX12_act_7 rfl ?_
  refine GX12_302 eX12_act_8 rfl ?_
  refine k_topi (nI kn) hpk ?_
  refine k_iconst (v := nI 1) eX12_act_11 (by decide) ?_
  refine k_isub eX12_act_12 ?_
  refine cS1 (M' := MX12_in) eX12_act_13 mX12_120 wX12_in sX12_in rfl (pX12_in (nI p) (nI 0) ((nI kn - nI 1))) (by decide) (Nat.le_of_ble_eq_true rfl) ?_
  refine k_ifb_eq 28 eX12_act_16 (by decide) (fun c_16 => by exact absurd ((pIn_W (k := kn) (by omega) _).mpr ⟨nI_pos' (by omega), nI_lt hpp (by omega)⟩) c_16) (fun c_16 => ?_)
  refine k_iload_n eX12_act_19 rfl ?_
  refine k_iconst (v := nI 0) eX12_act_20 (by decide) ?_
  refine k_iconst (v := nI 3) eX12_act_21 (by decide) ?_
  refine cS1 (M' := MX12_in) eX12_act_22 mX12_120 wX12_in sX12_in rfl (pX12_in (nI 0) (nI 0) (nI 3)) (by decide) (Nat.le_of_ble_eq_true rfl) ?_
  refine k_ifb_ne 30 eX12_act_25 (by decide) (fun c_25 => ?_) (fun c_25 => by exact absurd ⟨by decide, by decide⟩ c_25)
  refine k_aload_n eX12_act_30 rfl ?_
  refine k_iload_n eX12_act_31 rfl ?_
  refine PX12_317 eX12_act_32 rfl ?_
  refine k_aload_n eX12_act_35 rfl ?_
  refine GX12_74 eX12_act_36 rfl ?_
  refine k_iload_n eX12_act_39 rfl ?_
  refine k_ialdN (j := p) eX12_act_40 (ar72 _) (by omega) (Nat.le_of_ble_eq_true rfl) ?_
  refine k_topi (nI 3) hk ?_
  refine k_istore (L2 := [_, _, _, _, _]) eX12_act_41 (Nat.le_of_ble_eq_true rfl) rfl ?_
  refine k_iload_n eX12_act_43 rfl ?_
  refine k_if_neN 57 eX12_act_44 (by decide) (by omega) (fun c_44 => by exfalso; omega) (fun c_44 => ?_)
  refine k_aload_n eX12_act_47 rfl ?_
  refine k_iload eX12_act_48 rfl ?_
  refine k_iload_n eX12_act_50 rfl ?_
  refine cV1 (M' := MX12_worksIn) eX12_act_51 mX12_314 wX12_worksIn vX12_worksIn ⟨_, _, _, rfl, rfl, rfl⟩ rfl (pX12_worksIn_3_3 (S := (si (si S 2629 (nI 0)) 2647 (nI p))) (B := S.2.1 72) (n := 0) (p := p) (nb := nI p) rfl rfl rfl (by decide) (by omega) hk x rfl) (by decide) (Nat.le_of_ble_eq_true rfl) ?_
  refine k_goto 94 eX12_act_54 (by decide) ?_
  refine k_ireturn eX12_act_94 rfl rfl ?_
  exact ⟨rfl, rfl⟩
set_option maxHeartbeats 400000 in
theorem pX12_act_3_1 {S : k_S} {p kn : Nat} (hpk : S.1 2627 = nI kn) (hpp : p < kn) (hkn : kn ≤ 50) (hk : S.2.1 72 p = nI 3) (x : Int32) : Sp 13 0 0 MX12_act [.ref 52, .int (nI p), .int (nI 1), .int (x)] (hp S) (Rt (some (.int (acV 3 1 x (nI p)))) (hp (mAcS S p 3 1))) := by
  refine Sp_of (by decide +kernel) (Nat.le_of_ble_eq_true rfl) ?_
  show AW none MX12_act 13 0 0 0 [.ref 52, .int (nI p), .int (nI 1), .int (x), .null] [] (hp S) _
  refine k_aload_n eX12_act_0 rfl ?_
  refine k_iconst (v := nI 0) eX12_act_1 (by decide) ?_
  refine PX12_305 eX12_act_2 rfl ?_
  refine k_iload_n eX12_act_5 rfl ?_
  refine k_iconst (v := nI 0) eX12_act_6 (by decide) ?_
  refine k_aload_n eX12_act_7 rfl ?_
  refine GX12_302 eX12_act_8 rfl ?_
  refine k_topi (nI kn) hpk ?_
  refine k_iconst (v := nI 1) eX12_act_11 (by decide) ?_
  refine k_isub eX12_act_12 ?_
  refine cS1 (M' := MX12_in) eX12_act_13 mX12_120 wX12_in sX12_in rfl (pX12_in (nI p) (nI 0) ((nI kn - nI 1))) (by decide) (Nat.le_of_ble_eq_true rfl) ?_
  refine k_ifb_eq 28 eX12_act_16 (by decide) (fun c_16 => by exact absurd ((pIn_W (k := kn) (by omega) _).mpr ⟨nI_pos' (by omega), nI_lt hpp (by omega)⟩) c_16) (fun c_16 => ?_)
  refine k_iload_n eX12_act_19 rfl ?_
  refine k_iconst (v := nI 0) eX12_act_20 (by decide) ?_
  refine k_iconst (v := nI 3) eX12_act_21 (by decide) ?_
  refine cS1 (M' := MX12_in) eX12_act_22 mX12_120 wX12_in sX12_in rfl (pX12_in (nI 1) (nI 0) (nI 3)) (by decide) (Nat.le_of_ble_eq_true rfl) ?_
  refine k_ifb_ne 30 eX12_act_25 (by decide) (fun c_25 => ?_) (fun c_25 => by exact absurd ⟨by decide, by decide⟩ c_25)
  refine k_aload_n eX12_act_30 rfl ?_
  refine k_iload_n eX12_act_31 rfl ?_
  refine PX12_317 eX12_act_32 rfl ?_
  refine k_aload_n eX12_act_35 rfl ?_
  refine GX12_74 eX12_act_36 rfl ?_
  refine k_iload_n eX12_act_39 rfl ?_
  refine k_ialdN (j := p) eX12_act_40 (ar72 _) (by omega) (Nat.le_of_ble_eq_true rfl) ?_
  refine k_topi (nI 3) hk ?_
  refine k_istore (L2 := [_, _, _, _, _]) eX12_act_41 (Nat.le_of_ble_eq_true rfl) rfl ?_
  refine k_iload_n eX12_act_43 rfl ?_
  refine k_if_neN 57 eX12_act_44 (by decide) (by omega) (fun c_44 => ?_) (fun c_44 => by exfalso; omega)
  refine k_iload_n eX12_act_57 rfl ?_
  refine k_iconst (v := nI 1) eX12_act_58 (by decide) ?_
  refine k_icmp_neN 72 eX12_act_59 (by decide) (by omega) (by omega) (fun c_59 => by exfalso; omega) (fun c_59 => ?_)
  refine k_aload_n eX12_act_62 rfl ?_
  refine k_iload eX12_act_63 rfl ?_
  refine k_iload_n eX12_act_65 rfl ?_
  refine cV1 (M' := MX12_restsIn) eX12_act_66 mX12_320 wX12_restsIn vX12_restsIn ⟨_, _, _, rfl, rfl, rfl⟩ rfl (pX12_restsIn_3_3 (S := (si (si S 2629 (nI 0)) 2647 (nI p))) (B := S.2.1 72) (n := 0) (p := p) (nb := nI p) rfl rfl rfl (by decide) (by omega) hk x rfl) (by decide) (Nat.le_of_ble_eq_true rfl) ?_
  refine k_goto 94 eX12_act_69 (by decide) ?_
  refine k_ireturn eX12_act_94 rfl rfl ?_
  exact ⟨rfl, rfl⟩
set_option maxHeartbeats 400000 in
theorem pX12_act_3_2 {S : k_S} {p kn : Nat} (hpk : S.1 2627 = nI kn) (hpp : p < kn) (hkn : kn ≤ 50) (hk : S.2.1 72 p = nI 3) (x : Int32) : Sp 13 0 0 MX12_act [.ref 52, .int (nI p), .int (nI 2), .int (x)] (hp S) (Rt (some (.int (acV 3 2 x (nI p)))) (hp (mAcS S p 3 2))) := by
  refine Sp_of (by decide +kernel) (Nat.le_of_ble_eq_true rfl) ?_
  show AW none MX12_act 13 0 0 0 [.ref 52, .int (nI p), .int (nI 2), .int (x), .null] [] (hp S) _
  refine k_aload_n eX12_act_0 rfl ?_
  refine k_iconst (v := nI 0) eX12_act_1 (by decide) ?_
  refine PX12_305 eX12_act_2 rfl ?_
  refine k_iload_n eX12_act_5 rfl ?_
  refine k_iconst (v := nI 0) eX12_act_6 (by decide) ?_
  refine k_aload_n eX12_act_7 rfl ?_
  refine GX12_302 eX12_act_8 rfl ?_
  refine k_topi (nI kn) hpk ?_
  refine k_iconst (v := nI 1) eX12_act_11 (by decide) ?_
  refine k_isub eX12_act_12 ?_
  refine cS1 (M' := MX12_in) eX12_act_13 mX12_120 wX12_in sX12_in rfl (pX12_in (nI p) (nI 0) ((nI kn - nI 1))) (by decide) (Nat.le_of_ble_eq_true rfl) ?_
  refine k_ifb_eq 28 eX12_act_16 (by decide) (fun c_16 => by exact absurd ((pIn_W (k := kn) (by omega) _).mpr ⟨nI_pos' (by omega), nI_lt hpp (by omega)⟩) c_16) (fun c_16 => ?_)
  refine k_iload_n eX12_act_19 rfl ?_
  refine k_iconst (v := nI 0) eX12_act_20 (by decide) ?_
  refine k_iconst (v := nI 3) eX12_act_21 (by decide) ?_
  refine cS1 (M' := MX12_in) eX12_act_22 mX12_120 wX12_in sX12_in rfl (pX12_in (nI 2) (nI 0) (nI 3)) (by decide) (Nat.le_of_ble_eq_true rfl) ?_
  refine k_ifb_ne 30 eX12_act_25 (by decide) (fun c_25 => ?_) (fun c_25 => by exact absurd ⟨by decide, by decide⟩ c_25)
  refine k_aload_n eX12_act_30 rfl ?_
  refine k_iload_n eX12_act_31 rfl ?_
  refine PX12_317 eX12_act_32 rfl ?_
  refine k_aload_n eX12_act_35 rfl ?_
  refine GX12_74 eX12_act_36 rfl ?_
  refine k_iload_n eX12_act_39 rfl ?_
  refine k_ialdN (j := p) eX12_act_40 (ar72 _) (by omega) (Nat.le_of_ble_eq_true rfl) ?_
  refine k_topi (nI 3) hk ?_
  refine k_istore (L2 := [_, _, _, _, _]) eX12_act_41 (Nat.le_of_ble_eq_true rfl) rfl ?_
  refine k_iload_n eX12_act_43 rfl ?_
  refine k_if_neN 57 eX12_act_44 (by decide) (by omega) (fun c_44 => ?_) (fun c_44 => by exfalso; omega)
  refine k_iload_n eX12_act_57 rfl ?_
  refine k_iconst (v := nI 1) eX12_act_58 (by decide) ?_
  refine k_icmp_neN 72 eX12_act_59 (by decide) (by omega) (by omega) (fun c_59 => ?_) (fun c_59 => by exfalso; omega)
  refine k_iload_n eX12_act_72 rfl ?_
  refine k_iconst (v := nI 2) eX12_act_73 (by decide) ?_
  refine k_icmp_neN 87 eX12_act_74 (by decide) (by omega) (by omega) (fun c_74 => by exfalso; omega) (fun c_74 => ?_)
  refine k_aload_n eX12_act_77 rfl ?_
  refine k_iload eX12_act_78 rfl ?_
  refine k_iload_n eX12_act_80 rfl ?_
  refine cV1 (M' := MX12_countsIn) eX12_act_81 mX12_323 wX12_countsIn vX12_countsIn ⟨_, _, _, rfl, rfl, rfl⟩ rfl (pX12_countsIn_3_3 (S := (si (si S 2629 (nI 0)) 2647 (nI p))) (B := S.2.1 72) (n := 0) (p := p) (nb := nI p) rfl rfl rfl (by decide) (by omega) hk x rfl) (by decide) (Nat.le_of_ble_eq_true rfl) ?_
  refine k_goto 94 eX12_act_84 (by decide) ?_
  refine k_ireturn eX12_act_94 rfl rfl ?_
  exact ⟨rfl, rfl⟩
set_option maxHeartbeats 400000 in
theorem pX12_act_3_3 {S : k_S} {p kn : Nat} (hpk : S.1 2627 = nI kn) (hpp : p < kn) (hkn : kn ≤ 50) (hk : S.2.1 72 p = nI 3) (x : Int32) : Sp 13 0 0 MX12_act [.ref 52, .int (nI p), .int (nI 3), .int (x)] (hp S) (Rt (some (.int (acV 3 3 x (nI p)))) (hp (mAcS S p 3 3))) := by
  refine Sp_of (by decide +kernel) (Nat.le_of_ble_eq_true rfl) ?_
  show AW none MX12_act 13 0 0 0 [.ref 52, .int (nI p), .int (nI 3), .int (x), .null] [] (hp S) _
  refine k_aload_n eX12_act_0 rfl ?_
  refine k_iconst (v := nI 0) eX12_act_1 (by decide) ?_
  refine PX12_305 eX12_act_2 rfl ?_
  refine k_iload_n eX12_act_5 rfl ?_
  refine k_iconst (v := nI 0) eX12_act_6 (by decide) ?_
  refine k_aload_n eX12_act_7 rfl ?_
  refine GX12_302 eX12_act_8 rfl ?_
  refine k_topi (nI kn) hpk ?_
  refine k_iconst (v := nI 1) eX12_act_11 (by decide) ?_
  refine k_isub eX12_act_12 ?_
  refine cS1 (M' := MX12_in) eX12_act_13 mX12_120 wX12_in sX12_in rfl (pX12_in (nI p) (nI 0) ((nI kn - nI 1))) (by decide) (Nat.le_of_ble_eq_true rfl) ?_
  refine k_ifb_eq 28 eX12_act_16 (by decide) (fun c_16 => by exact absurd ((pIn_W (k := kn) (by omega) _).mpr ⟨nI_pos' (by omega), nI_lt hpp (by omega)⟩) c_16) (fun c_16 => ?_)
  refine k_iload_n eX12_act_19 rfl ?_
  refine k_iconst (v := nI 0) eX12_act_20 (by decide) ?_
  refine k_iconst (v := nI 3) eX12_act_21 (by decide) ?_
  refine cS1 (M' := MX12_in) eX12_act_22 mX12_120 wX12_in sX12_in rfl (pX12_in (nI 3) (nI 0) (nI 3)) (by decide) (Nat.le_of_ble_eq_true rfl) ?_
  refine k_ifb_ne 30 eX12_act_25 (by decide) (fun c_25 => ?_) (fun c_25 => by exact absurd ⟨by decide, by decide⟩ c_25)
  refine k_aload_n eX12_act_30 rfl ?_
  refine k_iload_n eX12_act_31 rfl ?_
  refine PX12_317 eX12_act_32 rfl ?_
  refine k_aload_n eX12_act_35 rfl ?_
  refine GX12_74 eX12_act_36 rfl ?_
  refine k_iload_n eX12_act_39 rfl ?_
  refine k_ialdN (j := p) eX12_act_40 (ar72 _) (by omega) (Nat.le_of_ble_eq_true rfl) ?_
  refine k_topi (nI 3) hk ?_
  refine k_istore (L2 := [_, _, _, _, _]) eX12_act_41 (Nat.le_of_ble_eq_true rfl) rfl ?_
  refine k_iload_n eX12_act_43 rfl ?_
  refine k_if_neN 57 eX12_act_44 (by decide) (by omega) (fun c_44 => ?_) (fun c_44 => by exfalso; omega)
  refine k_iload_n eX12_act_57 rfl ?_
  refine k_iconst (v := nI 1) eX12_act_58 (by decide) ?_
  refine k_icmp_neN 72 eX12_act_59 (by decide) (by omega) (by omega) (fun c_59 => ?_) (fun c_59 => by exfalso; omega)
  refine k_iload_n eX12_act_72 rfl ?_
  refine k_iconst (v := nI 2) eX12_act_73 (by decide) ?_
  refine k_icmp_neN 87 eX12_act_74 (by decide) (by omega) (by omega) (fun c_74 => ?_) (fun c_74 => by exfalso; omega)
  refine k_aload_n eX12_act_87 rfl ?_
  refine k_iload eX12_act_88 rfl ?_
  refine k_iload_n eX12_act_90 rfl ?_
  refine cV1 (M' := MX12_tells) eX12_act_91 mX12_326 wX12_tells vX12_tells ⟨_, _, _, rfl, rfl, rfl⟩ rfl (pX12_tells_3_3 (S := (si (si S 2629 (nI 0)) 2647 (nI p))) (B := S.2.1 72) (n := 0) (p := p) (nb := nI p) rfl rfl rfl (by decide) (by omega) hk x rfl) (by decide) (Nat.le_of_ble_eq_true rfl) ?_
  refine k_ireturn eX12_act_94 rfl rfl ?_
  exact ⟨rfl, rfl⟩
set_option maxHeartbeats 400000 in
theorem pX12_act_4_0 {S : k_S} {p kn : Nat} (hpk : S.1 2627 = nI kn) (hpp : p < kn) (hkn : kn ≤ 50) (hk : S.2.1 72 p = nI 4) (x : Int32) : Sp 13 0 0 MX12_act [.ref 52, .int (nI p), .int (nI 0), .int (x)] (hp S) (Rt (some (.int (acV 4 0 x (nI p)))) (hp (mAcS S p 4 0))) := by
  refine Sp_of (by decide +kernel) (Nat.le_of_ble_eq_true rfl) ?_
  show AW none MX12_act 13 0 0 0 [.ref 52, .int (nI p), .int (nI 0), .int (x), .null] [] (hp S) _
  refine k_aload_n eX12_act_0 rfl ?_
  refine k_iconst (v := nI 0) eX12_act_1 (by decide) ?_
  refine PX12_305 eX12_act_2 rfl ?_
  refine k_iload_n eX12_act_5 rfl ?_
  refine k_iconst (v := nI 0) eX12_act_6 (by decide) ?_
  refine k_aload_n eX12_act_7 rfl ?_
  refine GX12_302 eX12_act_8 rfl ?_
  refine k_topi (nI kn) hpk ?_
  refine k_iconst (v := nI 1) eX12_act_11 (by decide) ?_
  refine k_isub eX12_act_12 ?_
  refine cS1 (M' := MX12_in) eX12_act_13 mX12_120 wX12_in sX12_in rfl (pX12_in (nI p) (nI 0) ((nI kn - nI 1))) (by decide) (Nat.le_of_ble_eq_true rfl) ?_
  refine k_ifb_eq 28 eX12_act_16 (by decide) (fun c_16 => by exact absurd ((pIn_W (k := kn) (by omega) _).mpr ⟨nI_pos' (by omega), nI_lt hpp (by omega)⟩) c_16) (fun c_16 => ?_)
  refine k_iload_n eX12_act_19 rfl ?_
  refine k_iconst (v := nI 0) eX12_act_20 (by decide) ?_
  refine k_iconst (v := nI 3) eX12_act_21 (by decide) ?_
  refine cS1 (M' := MX12_in) eX12_act_22 mX12_120 wX12_in sX12_in rfl (pX12_in (nI 0) (nI 0) (nI 3)) (by decide) (Nat.le_of_ble_eq_true rfl) ?_
  refine k_ifb_ne 30 eX12_act_25 (by decide) (fun c_25 => ?_) (fun c_25 => by exact absurd ⟨by decide, by decide⟩ c_25)
  refine k_aload_n eX12_act_30 rfl ?_
  refine k_iload_n eX12_act_31 rfl ?_
  refine PX12_317 eX12_act_32 rfl ?_
  refine k_aload_n eX12_act_35 rfl ?_
  refine GX12_74 eX12_act_36 rfl ?_
  refine k_iload_n eX12_act_39 rfl ?_
  refine k_ialdN (j := p) eX12_act_40 (ar72 _) (by omega) (Nat.le_of_ble_eq_true rfl) ?_
  refine k_topi (nI 4) hk ?_
  refine k_istore (L2 := [_, _, _, _, _]) eX12_act_41 (Nat.le_of_ble_eq_true rfl) rfl ?_
  refine k_iload_n eX12_act_43 rfl ?_
  refine k_if_neN 57 eX12_act_44 (by decide) (by omega) (fun c_44 => by exfalso; omega) (fun c_44 => ?_)
  refine k_aload_n eX12_act_47 rfl ?_
  refine k_iload eX12_act_48 rfl ?_
  refine k_iload_n eX12_act_50 rfl ?_
  refine cV1 (M' := MX12_worksIn) eX12_act_51 mX12_314 wX12_worksIn vX12_worksIn ⟨_, _, _, rfl, rfl, rfl⟩ rfl (pX12_worksIn_4_4 (S := (si (si S 2629 (nI 0)) 2647 (nI p))) (B := S.2.1 72) (n := 0) (p := p) (nb := nI p) rfl rfl rfl (by decide) (by omega) hk x rfl) (by decide) (Nat.le_of_ble_eq_true rfl) ?_
  refine k_goto 94 eX12_act_54 (by decide) ?_
  refine k_ireturn eX12_act_94 rfl rfl ?_
  exact ⟨rfl, rfl⟩
set_option maxHeartbeats 400000 in
theorem pX12_act_4_1 {S : k_S} {p kn : Nat} (hpk : S.1 2627 = nI kn) (hpp : p < kn) (hkn : kn ≤ 50) (hk : S.2.1 72 p = nI 4) (x : Int32) : Sp 13 0 0 MX12_act [.ref 52, .int (nI p), .int (nI 1), .int (x)] (hp S) (Rt (some (.int (acV 4 1 x (nI p)))) (hp (mAcS S p 4 1))) := by
  refine Sp_of (by decide +kernel) (Nat.le_of_ble_eq_true rfl) ?_
  show AW none MX12_act 13 0 0 0 [.ref 52, .int (nI p), .int (nI 1), .int (x), .null] [] (hp S) _
  refine k_aload_n eX12_act_0 rfl ?_
  refine k_iconst (v := nI 0) eX12_act_1 (by decide) ?_
  refine PX12_305 eX12_act_2 rfl ?_
  refine k_iload_n eX12_act_5 rfl ?_
  refine k_iconst (v := nI 0) eX12_act_6 (by decide) ?_
  refine k_aload_n eX12_act_7 rfl ?_
  refine GX12_302 eX12_act_8 rfl ?_
  refine k_topi (nI kn) hpk ?_
  refine k_iconst (v := nI 1) eX12_act_11 (by decide) ?_
  refine k_isub eX12_act_12 ?_
  refine cS1 (M' := MX12_in) eX12_act_13 mX12_120 wX12_in sX12_in rfl (pX12_in (nI p) (nI 0) ((nI kn - nI 1))) (by decide) (Nat.le_of_ble_eq_true rfl) ?_
  refine k_ifb_eq 28 eX12_act_16 (by decide) (fun c_16 => by exact absurd ((pIn_W (k := kn) (by omega) _).mpr ⟨nI_pos' (by omega), nI_lt hpp (by omega)⟩) c_16) (fun c_16 => ?_)
  refine k_iload_n eX12_act_19 rfl ?_
  refine k_iconst (v := nI 0) eX12_act_20 (by decide) ?_
  refine k_iconst (v := nI 3) eX12_act_21 (by decide) ?_
  refine cS1 (M' := MX12_in) eX12_act_22 mX12_120 wX12_in sX12_in rfl (pX12_in (nI 1) (nI 0) (nI 3)) (by decide) (Nat.le_of_ble_eq_true rfl) ?_
  refine k_ifb_ne 30 eX12_act_25 (by decide) (fun c_25 => ?_) (fun c_25 => by exact absurd ⟨by decide, by decide⟩ c_25)
  refine k_aload_n eX12_act_30 rfl ?_
  refine k_iload_n eX12_act_31 rfl ?_
  refine PX12_317 eX12_act_32 rfl ?_
  refine k_aload_n eX12_act_35 rfl ?_
  refine GX12_74 eX12_act_36 rfl ?_
  refine k_iload_n eX12_act_39 rfl ?_
  refine k_ialdN (j := p) eX12_act_40 (ar72 _) (by omega) (Nat.le_of_ble_eq_true rfl) ?_
  refine k_topi (nI 4) hk ?_
  refine k_istore (L2 := [_, _, _, _, _]) eX12_act_41 (Nat.le_of_ble_eq_true rfl) rfl ?_
  refine k_iload_n eX12_act_43 rfl ?_
  refine k_if_neN 57 eX12_act_44 (by decide) (by omega) (fun c_44 => ?_) (fun c_44 => by exfalso; omega)
  refine k_iload_n eX12_act_57 rfl ?_
  refine k_iconst (v := nI 1) eX12_act_58 (by decide) ?_
  refine k_icmp_neN 72 eX12_act_59 (by decide) (by omega) (by omega) (fun c_59 => by exfalso; omega) (fun c_59 => ?_)
  refine k_aload_n eX12_act_62 rfl ?_
  refine k_iload eX12_act_63 rfl ?_
  refine k_iload_n eX12_act_65 rfl ?_
  refine cV1 (M' := MX12_restsIn) eX12_act_66 mX12_320 wX12_restsIn vX12_restsIn ⟨_, _, _, rfl, rfl, rfl⟩ rfl (pX12_restsIn_4_4 (S := (si (si S 2629 (nI 0)) 2647 (nI p))) (B := S.2.1 72) (n := 0) (p := p) (nb := nI p) rfl rfl rfl (by decide) (by omega) hk x rfl) (by decide) (Nat.le_of_ble_eq_true rfl) ?_
  refine k_goto 94 eX12_act_69 (by decide) ?_
  refine k_ireturn eX12_act_94 rfl rfl ?_
  exact ⟨rfl, rfl⟩
set_option maxHeartbeats 400000 in
theorem pX12_act_4_2 {S : k_S} {p kn : Nat} (hpk : S.1 2627 = nI kn) (hpp : p < kn) (hkn : kn ≤ 50) (hk : S.2.1 72 p = nI 4) (x : Int32) : Sp 13 0 0 MX12_act [.ref 52, .int (nI p), .int (nI 2), .int (x)] (hp S) (Rt (some (.int (acV 4 2 x (nI p)))) (hp (mAcS S p 4 2))) := by
  refine Sp_of (by decide +kernel) (Nat.le_of_ble_eq_true rfl) ?_
  show AW none MX12_act 13 0 0 0 [.ref 52, .int (nI p), .int (nI 2), .int (x), .null] [] (hp S) _
  refine k_aload_n eX12_act_0 rfl ?_
  refine k_iconst (v := nI 0) eX12_act_1 (by decide) ?_
  refine PX12_305 eX12_act_2 rfl ?_
  refine k_iload_n eX12_act_5 rfl ?_
  refine k_iconst (v := nI 0) eX12_act_6 (by decide) ?_
  refine k_aload_n eX12_act_7 rfl ?_
  refine GX12_302 eX12_act_8 rfl ?_
  refine k_topi (nI kn) hpk ?_
  refine k_iconst (v := nI 1) eX12_act_11 (by decide) ?_
  refine k_isub eX12_act_12 ?_
  refine cS1 (M' := MX12_in) eX12_act_13 mX12_120 wX12_in sX12_in rfl (pX12_in (nI p) (nI 0) ((nI kn - nI 1))) (by decide) (Nat.le_of_ble_eq_true rfl) ?_
  refine k_ifb_eq 28 eX12_act_16 (by decide) (fun c_16 => by exact absurd ((pIn_W (k := kn) (by omega) _).mpr ⟨nI_pos' (by omega), nI_lt hpp (by omega)⟩) c_16) (fun c_16 => ?_)
  refine k_iload_n eX12_act_19 rfl ?_
  refine k_iconst (v := nI 0) eX12_act_20 (by decide) ?_
  refine k_iconst (v := nI 3) eX12_act_21 (by decide) ?_
  refine cS1 (M' := MX12_in) eX12_act_22 mX12_120 wX12_in sX12_in rfl (pX12_in (nI 2) (nI 0) (nI 3)) (by decide) (Nat.le_of_ble_eq_true rfl) ?_
  refine k_ifb_ne 30 eX12_act_25 (by decide) (fun c_25 => ?_) (fun c_25 => by exact absurd ⟨by decide, by decide⟩ c_25)
  refine k_aload_n eX12_act_30 rfl ?_
  refine k_iload_n eX12_act_31 rfl ?_
  refine PX12_317 eX12_act_32 rfl ?_
  refine k_aload_n eX12_act_35 rfl ?_
  refine GX12_74 eX12_act_36 rfl ?_
  refine k_iload_n eX12_act_39 rfl ?_
  refine k_ialdN (j := p) eX12_act_40 (ar72 _) (by omega) (Nat.le_of_ble_eq_true rfl) ?_
  refine k_topi (nI 4) hk ?_
  refine k_istore (L2 := [_, _, _, _, _]) eX12_act_41 (Nat.le_of_ble_eq_true rfl) rfl ?_
  refine k_iload_n eX12_act_43 rfl ?_
  refine k_if_neN 57 eX12_act_44 (by decide) (by omega) (fun c_44 => ?_) (fun c_44 => by exfalso; omega)
  refine k_iload_n eX12_act_57 rfl ?_
  refine k_iconst (v := nI 1) eX12_act_58 (by decide) ?_
  refine k_icmp_neN 72 eX12_act_59 (by decide) (by omega) (by omega) (fun c_59 => ?_) (fun c_59 => by exfalso; omega)
  refine k_iload_n eX12_act_72 rfl ?_
  refine k_iconst (v := nI 2) eX12_act_73 (by decide) ?_
  refine k_icmp_neN 87 eX12_act_74 (by decide) (by omega) (by omega) (fun c_74 => by exfalso; omega) (fun c_74 => ?_)
  refine k_aload_n eX12_act_77 rfl ?_
  refine k_iload eX12_act_78 rfl ?_
  refine k_iload_n eX12_act_80 rfl ?_
  refine cV1 (M' := MX12_countsIn) eX12_act_81 mX12_323 wX12_countsIn vX12_countsIn ⟨_, _, _, rfl, rfl, rfl⟩ rfl (pX12_countsIn_4_4 (S := (si (si S 2629 (nI 0)) 2647 (nI p))) (B := S.2.1 72) (n := 0) (p := p) (nb := nI p) rfl rfl rfl (by decide) (by omega) hk x rfl) (by decide) (Nat.le_of_ble_eq_true rfl) ?_
  refine k_goto 94 eX12_act_84 (by decide) ?_
  refine k_ireturn eX12_act_94 rfl rfl ?_
  exact ⟨rfl, rfl⟩
set_option maxHeartbeats 400000 in
theorem pX12_act_4_3 {S : k_S} {p kn : Nat} (hpk : S.1 2627 = nI kn) (hpp : p < kn) (hkn : kn ≤ 50) (hk : S.2.1 72 p = nI 4) (x : Int32) : Sp 13 0 0 MX12_act [.ref 52, .int (nI p), .int (nI 3), .int (x)] (hp S) (Rt (some (.int (acV 4 3 x (nI p)))) (hp (mAcS S p 4 3))) := by
  refine Sp_of (by decide +kernel) (Nat.le_of_ble_eq_true rfl) ?_
  show AW none MX12_act 13 0 0 0 [.ref 52, .int (nI p), .int (nI 3), .int (x), .null] [] (hp S) _
  refine k_aload_n eX12_act_0 rfl ?_
  refine k_iconst (v := nI 0) eX12_act_1 (by decide) ?_
  refine PX12_305 eX12_act_2 rfl ?_
  refine k_iload_n eX12_act_5 rfl ?_
  refine k_iconst (v := nI 0) eX12_act_6 (by decide) ?_
  refine k_aload_n eX12_act_7 rfl ?_
  refine GX12_302 eX12_act_8 rfl ?_
  refine k_topi (nI kn) hpk ?_
  refine k_iconst (v := nI 1) eX12_act_11 (by decide) ?_
  refine k_isub eX12_act_12 ?_
  refine cS1 (M' := MX12_in) eX12_act_13 mX12_120 wX12_in sX12_in rfl (pX12_in (nI p) (nI 0) ((nI kn - nI 1))) (by decide) (Nat.le_of_ble_eq_true rfl) ?_
  refine k_ifb_eq 28 eX12_act_16 (by decide) (fun c_16 => by exact absurd ((pIn_W (k := kn) (by omega) _).mpr ⟨nI_pos' (by omega), nI_lt hpp (by omega)⟩) c_16) (fun c_16 => ?_)
  refine k_iload_n eX12_act_19 rfl ?_
  refine k_iconst (v := nI 0) eX12_act_20 (by decide) ?_
  refine k_iconst (v := nI 3) eX12_act_21 (by decide) ?_
  refine cS1 (M' := MX12_in) eX12_act_22 mX12_120 wX12_in sX12_in rfl (pX12_in (nI 3) (nI 0) (nI 3)) (by decide) (Nat.le_of_ble_eq_true rfl) ?_
  refine k_ifb_ne 30 eX12_act_25 (by decide) (fun c_25 => ?_) (fun c_25 => by exact absurd ⟨by decide, by decide⟩ c_25)
  refine k_aload_n eX12_act_30 rfl ?_
  refine k_iload_n eX12_act_31 rfl ?_
  refine PX12_317 eX12_act_32 rfl ?_
  refine k_aload_n eX12_act_35 rfl ?_
  refine GX12_74 eX12_act_36 rfl ?_
  refine k_iload_n eX12_act_39 rfl ?_
  refine k_ialdN (j := p) eX12_act_40 (ar72 _) (by omega) (Nat.le_of_ble_eq_true rfl) ?_
  refine k_topi (nI 4) hk ?_
  refine k_istore (L2 := [_, _, _, _, _]) eX12_act_41 (Nat.le_of_ble_eq_true rfl) rfl ?_
  refine k_iload_n eX12_act_43 rfl ?_
  refine k_if_neN 57 eX12_act_44 (by decide) (by omega) (fun c_44 => ?_) (fun c_44 => by exfalso; omega)
  refine k_iload_n eX12_act_57 rfl ?_
  refine k_iconst (v := nI 1) eX12_act_58 (by decide) ?_
  refine k_icmp_neN 72 eX12_act_59 (by decide) (by omega) (by omega) (fun c_59 => ?_) (fun c_59 => by exfalso; omega)
  refine k_iload_n eX12_act_72 rfl ?_
  refine k_iconst (v := nI 2) eX12_act_73 (by decide) ?_
  refine k_icmp_neN 87 eX12_act_74 (by decide) (by omega) (by omega) (fun c_74 => ?_) (fun c_74 => by exfalso; omega)
  refine k_aload_n eX12_act_87 rfl ?_
  refine k_iload eX12_act_88 rfl ?_
  refine k_iload_n eX12_act_90 rfl ?_
  refine cV1 (M' := MX12_tells) eX12_act_91 mX12_326 wX12_tells vX12_tells ⟨_, _, _, rfl, rfl, rfl⟩ rfl (pX12_tells_4_4 (S := (si (si S 2629 (nI 0)) 2647 (nI p))) (B := S.2.1 72) (n := 0) (p := p) (nb := nI p) rfl rfl rfl (by decide) (by omega) hk x rfl) (by decide) (Nat.le_of_ble_eq_true rfl) ?_
  refine k_ireturn eX12_act_94 rfl rfl ?_
  exact ⟨rfl, rfl⟩
set_option maxHeartbeats 400000 in
theorem pX12_act_5_0 {S : k_S} {p kn : Nat} (hpk : S.1 2627 = nI kn) (hpp : p < kn) (hkn : kn ≤ 50) (hk : S.2.1 72 p = nI 5) (x : Int32) : Sp 13 0 0 MX12_act [.ref 52, .int (nI p), .int (nI 0), .int (x)] (hp S) (Rt (some (.int (acV 5 0 x (nI p)))) (hp (mAcS S p 5 0))) := by
  refine Sp_of (by decide +kernel) (Nat.le_of_ble_eq_true rfl) ?_
  show AW none MX12_act 13 0 0 0 [.ref 52, .int (nI p), .int (nI 0), .int (x), .null] [] (hp S) _
  refine k_aload_n eX12_act_0 rfl ?_
  refine k_iconst (v := nI 0) eX12_act_1 (by decide) ?_
  refine PX12_305 eX12_act_2 rfl ?_
  refine k_iload_n eX12_act_5 rfl ?_
  refine k_iconst (v := nI 0) eX12_act_6 (by decide) ?_
  refine k_aload_n eX12_act_7 rfl ?_
  refine GX12_302 eX12_act_8 rfl ?_
  refine k_topi (nI kn) hpk ?_
  refine k_iconst (v := nI 1) eX12_act_11 (by decide) ?_
  refine k_isub eX12_act_12 ?_
  refine cS1 (M' := MX12_in) eX12_act_13 mX12_120 wX12_in sX12_in rfl (pX12_in (nI p) (nI 0) ((nI kn - nI 1))) (by decide) (Nat.le_of_ble_eq_true rfl) ?_
  refine k_ifb_eq 28 eX12_act_16 (by decide) (fun c_16 => by exact absurd ((pIn_W (k := kn) (by omega) _).mpr ⟨nI_pos' (by omega), nI_lt hpp (by omega)⟩) c_16) (fun c_16 => ?_)
  refine k_iload_n eX12_act_19 rfl ?_
  refine k_iconst (v := nI 0) eX12_act_20 (by decide) ?_
  refine k_iconst (v := nI 3) eX12_act_21 (by decide) ?_
  refine cS1 (M' := MX12_in) eX12_act_22 mX12_120 wX12_in sX12_in rfl (pX12_in (nI 0) (nI 0) (nI 3)) (by decide) (Nat.le_of_ble_eq_true rfl) ?_
  refine k_ifb_ne 30 eX12_act_25 (by decide) (fun c_25 => ?_) (fun c_25 => by exact absurd ⟨by decide, by decide⟩ c_25)
  refine k_aload_n eX12_act_30 rfl ?_
  refine k_iload_n eX12_act_31 rfl ?_
  refine PX12_317 eX12_act_32 rfl ?_
  refine k_aload_n eX12_act_35 rfl ?_
  refine GX12_74 eX12_act_36 rfl ?_
  refine k_iload_n eX12_act_39 rfl ?_
  refine k_ialdN (j := p) eX12_act_40 (ar72 _) (by omega) (Nat.le_of_ble_eq_true rfl) ?_
  refine k_topi (nI 5) hk ?_
  refine k_istore (L2 := [_, _, _, _, _]) eX12_act_41 (Nat.le_of_ble_eq_true rfl) rfl ?_
  refine k_iload_n eX12_act_43 rfl ?_
  refine k_if_neN 57 eX12_act_44 (by decide) (by omega) (fun c_44 => by exfalso; omega) (fun c_44 => ?_)
  refine k_aload_n eX12_act_47 rfl ?_
  refine k_iload eX12_act_48 rfl ?_
  refine k_iload_n eX12_act_50 rfl ?_
  refine cV1 (M' := MX12_worksIn) eX12_act_51 mX12_314 wX12_worksIn vX12_worksIn ⟨_, _, _, rfl, rfl, rfl⟩ rfl (pX12_worksIn_5_5 (S := (si (si S 2629 (nI 0)) 2647 (nI p))) (B := S.2.1 72) (n := 0) (p := p) (nb := nI p) rfl rfl rfl (by decide) (by omega) hk x rfl) (by decide) (Nat.le_of_ble_eq_true rfl) ?_
  refine k_goto 94 eX12_act_54 (by decide) ?_
  refine k_ireturn eX12_act_94 rfl rfl ?_
  exact ⟨rfl, rfl⟩
set_option maxHeartbeats 400000 in
theorem pX12_act_5_1 {S : k_S} {p kn : Nat} (hpk : S.1 2627 = nI kn) (hpp : p < kn) (hkn : kn ≤ 50) (hk : S.2.1 72 p = nI 5) (x : Int32) : Sp 13 0 0 MX12_act [.ref 52, .int (nI p), .int (nI 1), .int (x)] (hp S) (Rt (some (.int (acV 5 1 x (nI p)))) (hp (mAcS S p 5 1))) := by
  refine Sp_of (by decide +kernel) (Nat.le_of_ble_eq_true rfl) ?_
  show AW none MX12_act 13 0 0 0 [.ref 52, .int (nI p), .int (nI 1), .int (x), .null] [] (hp S) _
  refine k_aload_n eX12_act_0 rfl ?_
  refine k_iconst (v := nI 0) eX12_act_1 (by decide) ?_
  refine PX12_305 eX12_act_2 rfl ?_
  refine k_iload_n eX12_act_5 rfl ?_
  refine k_iconst (v := nI 0) eX12_act_6 (by decide) ?_
  refine k_aload_n eX12_act_7 rfl ?_
  refine GX12_302 eX12_act_8 rfl ?_
  refine k_topi (nI kn) hpk ?_
  refine k_iconst (v := nI 1) eX12_act_11 (by decide) ?_
  refine k_isub eX12_act_12 ?_
  refine cS1 (M' := MX12_in) eX12_act_13 mX12_120 wX12_in sX12_in rfl (pX12_in (nI p) (nI 0) ((nI kn - nI 1))) (by decide) (Nat.le_of_ble_eq_true rfl) ?_
  refine k_ifb_eq 28 eX12_act_16 (by decide) (fun c_16 => by exact absurd ((pIn_W (k := kn) (by omega) _).mpr ⟨nI_pos' (by omega), nI_lt hpp (by omega)⟩) c_16) (fun c_16 => ?_)
  refine k_iload_n eX12_act_19 rfl ?_
  refine k_iconst (v := nI 0) eX12_act_20 (by decide) ?_
  refine k_iconst (v := nI 3) eX12_act_21 (by decide) ?_
  refine cS1 (M' := MX12_in) eX12_act_22 mX12_120 wX12_in sX12_in rfl (pX12_in (nI 1) (nI 0) (nI 3)) (by decide) (Nat.le_of_ble_eq_true rfl) ?_
  refine k_ifb_ne 30 eX12_act_25 (by decide) (fun c_25 => ?_) (fun c_25 => by exact absurd ⟨by decide, by decide⟩ c_25)
  refine k_aload_n eX12_act_30 rfl ?_
  refine k_iload_n eX12_act_31 rfl ?_
  refine PX12_317 eX12_act_32 rfl ?_
  refine k_aload_n eX12_act_35 rfl ?_
  refine GX12_74 eX12_act_36 rfl ?_
  refine k_iload_n eX12_act_39 rfl ?_
  refine k_ialdN (j := p) eX12_act_40 (ar72 _) (by omega) (Nat.le_of_ble_eq_true rfl) ?_
  refine k_topi (nI 5) hk ?_
  refine k_istore (L2 := [_, _, _, _, _]) eX12_act_41 (Nat.le_of_ble_eq_true rfl) rfl ?_
  refine k_iload_n eX12_act_43 rfl ?_
  refine k_if_neN 57 eX12_act_44 (by decide) (by omega) (fun c_44 => ?_) (fun c_44 => by exfalso; omega)
  refine k_iload_n eX12_act_57 rfl ?_
  refine k_iconst (v := nI 1) eX12_act_58 (by decide) ?_
  refine k_icmp_neN 72 eX12_act_59 (by decide) (by omega) (by omega) (fun c_59 => by exfalso; omega) (fun c_59 => ?_)
  refine k_aload_n eX12_act_62 rfl ?_
  refine k_iload eX12_act_63 rfl ?_
  refine k_iload_n eX12_act_65 rfl ?_
  refine cV1 (M' := MX12_restsIn) eX12_act_66 mX12_320 wX12_restsIn vX12_restsIn ⟨_, _, _, rfl, rfl, rfl⟩ rfl (pX12_restsIn_5_5 (S := (si (si S 2629 (nI 0)) 2647 (nI p))) (B := S.2.1 72) (n := 0) (p := p) (nb := nI p) rfl rfl rfl (by decide) (by omega) hk x rfl) (by decide) (Nat.le_of_ble_eq_true rfl) ?_
  refine k_goto 94 eX12_act_69 (by decide) ?_
  refine k_ireturn eX12_act_94 rfl rfl ?_
  exact ⟨rfl, rfl⟩
set_option maxHeartbeats 400000 in
theorem pX12_act_5_2 {S : k_S} {p kn : Nat} (hpk : S.1 2627 = nI kn) (hpp : p < kn) (hkn : kn ≤ 50) (hk : S.2.1 72 p = nI 5) (x : Int32) : Sp 13 0 0 MX12_act [.ref 52, .int (nI p), .int (nI 2), .int (x)] (hp S) (Rt (some (.int (acV 5 2 x (nI p)))) (hp (mAcS S p 5 2))) := by
  refine Sp_of (by decide +kernel) (Nat.le_of_ble_eq_true rfl) ?_
  show AW none MX12_act 13 0 0 0 [.ref 52, .int (nI p), .int (nI 2), .int (x), .null] [] (hp S) _
  refine k_aload_n eX12_act_0 rfl ?_
  refine k_iconst (v := nI 0) eX12_act_1 (by decide) ?_
  refine PX12_305 eX12_act_2 rfl ?_
  refine k_iload_n eX12_act_5 rfl ?_
  refine k_iconst (v := nI 0) eX12_act_6 (by decide) ?_
  refine k_aload_n eX12_act_7 rfl ?_
  refine GX12_302 eX12_act_8 rfl ?_
  refine k_topi (nI kn) hpk ?_
  refine k_iconst (v := nI 1) eX12_act_11 (by decide) ?_
  refine k_isub eX12_act_12 ?_
  refine cS1 (M' := MX12_in) eX12_act_13 mX12_120 wX12_in sX12_in rfl (pX12_in (nI p) (nI 0) ((nI kn - nI 1))) (by decide) (Nat.le_of_ble_eq_true rfl) ?_
  refine k_ifb_eq 28 eX12_act_16 (by decide) (fun c_16 => by exact absurd ((pIn_W (k := kn) (by omega) _).mpr ⟨nI_pos' (by omega), nI_lt hpp (by omega)⟩) c_16) (fun c_16 => ?_)
  refine k_iload_n eX12_act_19 rfl ?_
  refine k_iconst (v := nI 0) eX12_act_20 (by decide) ?_
  refine k_iconst (v := nI 3) eX12_act_21 (by decide) ?_
  refine cS1 (M' := MX12_in) eX12_act_22 mX12_120 wX12_in sX12_in rfl (pX12_in (nI 2) (nI 0) (nI 3)) (by decide) (Nat.le_of_ble_eq_true rfl) ?_
  refine k_ifb_ne 30 eX12_act_25 (by decide) (fun c_25 => ?_) (fun c_25 => by exact absurd ⟨by decide, by decide⟩ c_25)
  refine k_aload_n eX12_act_30 rfl ?_
  refine k_iload_n eX12_act_31 rfl ?_
  refine PX12_317 eX12_act_32 rfl ?_
  refine k_aload_n eX12_act_35 rfl ?_
  refine GX12_74 eX12_act_36 rfl ?_
  refine k_iload_n eX12_act_39 rfl ?_
  refine k_ialdN (j := p) eX12_act_40 (ar72 _) (by omega) (Nat.le_of_ble_eq_true rfl) ?_
  refine k_topi (nI 5) hk ?_
  refine k_istore (L2 := [_, _, _, _, _]) eX12_act_41 (Nat.le_of_ble_eq_true rfl) rfl ?_
  refine k_iload_n eX12_act_43 rfl ?_
  refine k_if_neN 57 eX12_act_44 (by decide) (by omega) (fun c_44 => ?_) (fun c_44 => by exfalso; omega)
  refine k_iload_n eX12_act_57 rfl ?_
  refine k_iconst (v := nI 1) eX12_act_58 (by decide) ?_
  refine k_icmp_neN 72 eX12_act_59 (by decide) (by omega) (by omega) (fun c_59 => ?_) (fun c_59 => by exfalso; omega)
  refine k_iload_n eX12_act_72 rfl ?_
  refine k_iconst (v := nI 2) eX12_act_73 (by decide) ?_
  refine k_icmp_neN 87 eX12_act_74 (by decide) (by omega) (by omega) (fun c_74 => by exfalso; omega) (fun c_74 => ?_)
  refine k_aload_n eX12_act_77 rfl ?_
  refine k_iload eX12_act_78 rfl ?_
  refine k_iload_n eX12_act_80 rfl ?_
  refine cV1 (M' := MX12_countsIn) eX12_act_81 mX12_323 wX12_countsIn vX12_countsIn ⟨_, _, _, rfl, rfl, rfl⟩ rfl (pX12_countsIn_5_5 (S := (si (si S 2629 (nI 0)) 2647 (nI p))) (B := S.2.1 72) (n := 0) (p := p) (nb := nI p) rfl rfl rfl (by decide) (by omega) hk x rfl) (by decide) (Nat.le_of_ble_eq_true rfl) ?_
  refine k_goto 94 eX12_act_84 (by decide) ?_
  refine k_ireturn eX12_act_94 rfl rfl ?_
  exact ⟨rfl, rfl⟩
set_option maxHeartbeats 400000 in
theorem pX12_act_5_3 {S : k_S} {p kn : Nat} (hpk : S.1 2627 = nI kn) (hpp : p < kn) (hkn : kn ≤ 50) (hk : S.2.1 72 p = nI 5) (x : Int32) : Sp 13 0 0 MX12_act [.ref 52, .int (nI p), .int (nI 3), .int (x)] (hp S) (Rt (some (.int (acV 5 3 x (nI p)))) (hp (mAcS S p 5 3))) := by
  refine Sp_of (by decide +kernel) (Nat.le_of_ble_eq_true rfl) ?_
  show AW none MX12_act 13 0 0 0 [.ref 52, .int (nI p), .int (nI 3), .int (x), .null] [] (hp S) _
  refine k_aload_n eX12_act_0 rfl ?_
  refine k_iconst (v := nI 0) eX12_act_1 (by decide) ?_
  refine PX12_305 eX12_act_2 rfl ?_
  refine k_iload_n eX12_act_5 rfl ?_
  refine k_iconst (v := nI 0) eX12_act_6 (by decide) ?_
  refine k_aload_n eX12_act_7 rfl ?_
  refine GX12_302 eX12_act_8 rfl ?_
  refine k_topi (nI kn) hpk ?_
  refine k_iconst (v := nI 1) eX12_act_11 (by decide) ?_
  refine k_isub eX12_act_12 ?_
  refine cS1 (M' := MX12_in) eX12_act_13 mX12_120 wX12_in sX12_in rfl (pX12_in (nI p) (nI 0) ((nI kn - nI 1))) (by decide) (Nat.le_of_ble_eq_true rfl) ?_
  refine k_ifb_eq 28 eX12_act_16 (by decide) (fun c_16 => by exact absurd ((pIn_W (k := kn) (by omega) _).mpr ⟨nI_pos' (by omega), nI_lt hpp (by omega)⟩) c_16) (fun c_16 => ?_)
  refine k_iload_n eX12_act_19 rfl ?_
  refine k_iconst (v := nI 0) eX12_act_20 (by decide) ?_
  refine k_iconst (v := nI 3) eX12_act_21 (by decide) ?_
  refine cS1 (M' := MX12_in) eX12_act_22 mX12_120 wX12_in sX12_in rfl (pX12_in (nI 3) (nI 0) (nI 3)) (by decide) (Nat.le_of_ble_eq_true rfl) ?_
  refine k_ifb_ne 30 eX12_act_25 (by decide) (fun c_25 => ?_) (fun c_25 => by exact absurd ⟨by decide, by decide⟩ c_25)
  refine k_aload_n eX12_act_30 rfl ?_
  refine k_iload_n eX12_act_31 rfl ?_
  refine PX12_317 eX12_act_32 rfl ?_
  refine k_aload_n eX12_act_35 rfl ?_
  refine GX12_74 eX12_act_36 rfl ?_
  refine k_iload_n eX12_act_39 rfl ?_
  refine k_ialdN (j := p) eX12_act_40 (ar72 _) (by omega) (Nat.le_of_ble_eq_true rfl) ?_
  refine k_topi (nI 5) hk ?_
  refine k_istore (L2 := [_, _, _, _, _]) eX12_act_41 (Nat.le_of_ble_eq_true rfl) rfl ?_
  refine k_iload_n eX12_act_43 rfl ?_
  refine k_if_neN 57 eX12_act_44 (by decide) (by omega) (fun c_44 => ?_) (fun c_44 => by exfalso; omega)
  refine k_iload_n eX12_act_57 rfl ?_
  refine k_iconst (v := nI 1) eX12_act_58 (by decide) ?_
  refine k_icmp_neN 72 eX12_act_59 (by decide) (by omega) (by omega) (fun c_59 => ?_) (fun c_59 => by exfalso; omega)
  refine k_iload_n eX12_act_72 rfl ?_
  refine k_iconst (v := nI 2) eX12_act_73 (by decide) ?_
  refine k_icmp_neN 87 eX12_act_74 (by decide) (by omega) (by omega) (fun c_74 => ?_) (fun c_74 => by exfalso; omega)
  refine k_aload_n eX12_act_87 rfl ?_
  refine k_iload eX12_act_88 rfl ?_
  refine k_iload_n eX12_act_90 rfl ?_
  refine cV1 (M' := MX12_tells) eX12_act_91 mX12_326 wX12_tells vX12_tells ⟨_, _, _, rfl, rfl, rfl⟩ rfl (pX12_tells_5_5 (S := (si (si S 2629 (nI 0)) 2647 (nI p))) (B := S.2.1 72) (n := 0) (p := p) (nb := nI p) rfl rfl rfl (by decide) (by omega) hk x rfl) (by decide) (Nat.le_of_ble_eq_true rfl) ?_
  refine k_ireturn eX12_act_94 rfl rfl ?_
  exact ⟨rfl, rfl⟩
set_option maxHeartbeats 400000 in
theorem pX12_act_6_0 {S : k_S} {p kn : Nat} (hpk : S.1 2627 = nI kn) (hpp : p < kn) (hkn : kn ≤ 50) (hk : S.2.1 72 p = nI 6) (x : Int32) : Sp 13 0 0 MX12_act [.ref 52, .int (nI p), .int (nI 0), .int (x)] (hp S) (Rt (some (.int (acV 6 0 x (nI p)))) (hp (mAcS S p 6 0))) := by
  refine Sp_of (by decide +kernel) (Nat.le_of_ble_eq_true rfl) ?_
  show AW none MX12_act 13 0 0 0 [.ref 52, .int (nI p), .int (nI 0), .int (x), .null] [] (hp S) _
  refine k_aload_n eX12_act_0 rfl ?_
  refine k_iconst (v := nI 0) eX12_act_1 (by decide) ?_
  refine PX12_305 eX12_act_2 rfl ?_
  refine k_iload_n eX12_act_5 rfl ?_
  refine k_iconst (v := nI 0) eX12_act_6 (by decide) ?_
  refine k_aload_n eX12_act_7 rfl ?_
  refine GX12_302 eX12_act_8 rfl ?_
  refine k_topi (nI kn) hpk ?_
  refine k_iconst (v := nI 1) eX12_act_11 (by decide) ?_
  refine k_isub eX12_act_12 ?_
  refine cS1 (M' := MX12_in) eX12_act_13 mX12_120 wX12_in sX12_in rfl (pX12_in (nI p) (nI 0) ((nI kn - nI 1))) (by decide) (Nat.le_of_ble_eq_true rfl) ?_
  refine k_ifb_eq 28 eX12_act_16 (by decide) (fun c_16 => by exact absurd ((pIn_W (k := kn) (by omega) _).mpr ⟨nI_pos' (by omega), nI_lt hpp (by omega)⟩) c_16) (fun c_16 => ?_)
  refine k_iload_n eX12_act_19 rfl ?_
  refine k_iconst (v := nI 0) eX12_act_20 (by decide) ?_
  refine k_iconst (v := nI 3) eX12_act_21 (by decide) ?_
  refine cS1 (M' := MX12_in) eX12_act_22 mX12_120 wX12_in sX12_in rfl (pX12_in (nI 0) (nI 0) (nI 3)) (by decide) (Nat.le_of_ble_eq_true rfl) ?_
  refine k_ifb_ne 30 eX12_act_25 (by decide) (fun c_25 => ?_) (fun c_25 => by exact absurd ⟨by decide, by decide⟩ c_25)
  refine k_aload_n eX12_act_30 rfl ?_
  refine k_iload_n eX12_act_31 rfl ?_
  refine PX12_317 eX12_act_32 rfl ?_
  refine k_aload_n eX12_act_35 rfl ?_
  refine GX12_74 eX12_act_36 rfl ?_
  refine k_iload_n eX12_act_39 rfl ?_
  refine k_ialdN (j := p) eX12_act_40 (ar72 _) (by omega) (Nat.le_of_ble_eq_true rfl) ?_
  refine k_topi (nI 6) hk ?_
  refine k_istore (L2 := [_, _, _, _, _]) eX12_act_41 (Nat.le_of_ble_eq_true rfl) rfl ?_
  refine k_iload_n eX12_act_43 rfl ?_
  refine k_if_neN 57 eX12_act_44 (by decide) (by omega) (fun c_44 => by exfalso; omega) (fun c_44 => ?_)
  refine k_aload_n eX12_act_47 rfl ?_
  refine k_iload eX12_act_48 rfl ?_
  refine k_iload_n eX12_act_50 rfl ?_
  refine cV1 (M' := MX12_worksIn) eX12_act_51 mX12_314 wX12_worksIn vX12_worksIn ⟨_, _, _, rfl, rfl, rfl⟩ rfl (pX12_worksIn_6_6 (S := (si (si S 2629 (nI 0)) 2647 (nI p))) (B := S.2.1 72) (n := 0) (p := p) (nb := nI p) rfl rfl rfl (by decide) (by omega) hk x rfl) (by decide) (Nat.le_of_ble_eq_true rfl) ?_
  refine k_goto 94 eX12_act_54 (by decide) ?_
  refine k_ireturn eX12_act_94 rfl rfl ?_
  exact ⟨rfl, rfl⟩
set_option maxHeartbeats 400000 in
theorem pX12_act_6_1 {S : k_S} {p kn : Nat} (hpk : S.1 2627 = nI kn) (hpp : p < kn) (hkn : kn ≤ 50) (hk : S.2.1 72 p = nI 6) (x : Int32) : Sp 13 0 0 MX12_act [.ref 52, .int (nI p), .int (nI 1), .int (x)] (hp S) (Rt (some (.int (acV 6 1 x (nI p)))) (hp (mAcS S p 6 1))) := by
  refine Sp_of (by decide +kernel) (Nat.le_of_ble_eq_true rfl) ?_
  show AW none MX12_act 13 0 0 0 [.ref 52, .int (nI p), .int (nI 1), .int (x), .null] [] (hp S) _
  refine k_aload_n eX12_act_0 rfl ?_
  refine k_iconst (v := nI 0) eX12_act_1 (by decide) ?_
  refine PX12_305 eX12_act_2 rfl ?_
  refine k_iload_n eX12_act_5 rfl ?_
  refine k_iconst (v := nI 0) eX12_act_6 (by decide) ?_
  refine k_aload_n eX12_act_7 rfl ?_
  refine GX12_302 eX12_act_8 rfl ?_
  refine k_topi (nI kn) hpk ?_
  refine k_iconst (v := nI 1) eX12_act_11 (by decide) ?_
  refine k_isub eX12_act_12 ?_
  refine cS1 (M' := MX12_in) eX12_act_13 mX12_120 wX12_in sX12_in rfl (pX12_in (nI p) (nI 0) ((nI kn - nI 1))) (by decide) (Nat.le_of_ble_eq_true rfl) ?_
  refine k_ifb_eq 28 eX12_act_16 (by decide) (fun c_16 => by exact absurd ((pIn_W (k := kn) (by omega) _).mpr ⟨nI_pos' (by omega), nI_lt hpp (by omega)⟩) c_16) (fun c_16 => ?_)
  refine k_iload_n eX12_act_19 rfl ?_
  refine k_iconst (v := nI 0) eX12_act_20 (by decide) ?_
  refine k_iconst (v := nI 3) eX12_act_21 (by decide) ?_
  refine cS1 (M' := MX12_in) eX12_act_22 mX12_120 wX12_in sX12_in rfl (pX12_in (nI 1) (nI 0) (nI 3)) (by decide) (Nat.le_of_ble_eq_true rfl) ?_
  refine k_ifb_ne 30 eX12_act_25 (by decide) (fun c_25 => ?_) (fun c_25 => by exact absurd ⟨by decide, by decide⟩ c_25)
  refine k_aload_n eX12_act_30 rfl ?_
  refine k_iload_n eX12_act_31 rfl ?_
  refine PX12_317 eX12_act_32 rfl ?_
  refine k_aload_n eX12_act_35 rfl ?_
  refine GX12_74 eX12_act_36 rfl ?_
  refine k_iload_n eX12_act_39 rfl ?_
  refine k_ialdN (j := p) eX12_act_40 (ar72 _) (by omega) (Nat.le_of_ble_eq_true rfl) ?_
  refine k_topi (nI 6) hk ?_
  refine k_istore (L2 := [_, _, _, _, _]) eX12_act_41 (Nat.le_of_ble_eq_true rfl) rfl ?_
  refine k_iload_n eX12_act_43 rfl ?_
  refine k_if_neN 57 eX12_act_44 (by decide) (by omega) (fun c_44 => ?_) (fun c_44 => by exfalso; omega)
  refine k_iload_n eX12_act_57 rfl ?_
  refine k_iconst (v := nI 1) eX12_act_58 (by decide) ?_
  refine k_icmp_neN 72 eX12_act_59 (by decide) (by omega) (by omega) (fun c_59 => by exfalso; omega) (fun c_59 => ?_)
  refine k_aload_n eX12_act_62 rfl ?_
  refine k_iload eX12_act_63 rfl ?_
  refine k_iload_n eX12_act_65 rfl ?_
  refine cV1 (M' := MX12_restsIn) eX12_act_66 mX12_320 wX12_restsIn vX12_restsIn ⟨_, _, _, rfl, rfl, rfl⟩ rfl (pX12_restsIn_6_6 (S := (si (si S 2629 (nI 0)) 2647 (nI p))) (B := S.2.1 72) (n := 0) (p := p) (nb := nI p) rfl rfl rfl (by decide) (by omega) hk x rfl) (by decide) (Nat.le_of_ble_eq_true rfl) ?_
  refine k_goto 94 eX12_act_69 (by decide) ?_
  refine k_ireturn eX12_act_94 rfl rfl ?_
  exact ⟨rfl, rfl⟩
set_option maxHeartbeats 400000 in
theorem pX12_act_6_2 {S : k_S} {p kn : Nat} (hpk : S.1 2627 = nI kn) (hpp : p < kn) (hkn : kn ≤ 50) (hk : S.2.1 72 p = nI 6) (x : Int32) : Sp 13 0 0 MX12_act [.ref 52, .int (nI p), .int (nI 2), .int (x)] (hp S) (Rt (some (.int (acV 6 2 x (nI p)))) (hp (mAcS S p 6 2))) := by
  refine Sp_of (by decide +kernel) (Nat.le_of_ble_eq_true rfl) ?_
  show AW none MX12_act 13 0 0 0 [.ref 52, .int (nI p), .int (nI 2), .int (x), .null] [] (hp S) _
  refine k_aload_n eX12_act_0 rfl ?_
  refine k_iconst (v := nI 0) eX12_act_1 (by decide) ?_
  refine PX12_305 eX12_act_2 rfl ?_
  refine k_iload_n eX12_act_5 rfl ?_
  refine k_iconst (v := nI 0) eX12_act_6 (by decide) ?_
  refine k_aload_n eX12_act_7 rfl ?_
  refine GX12_302 eX12_act_8 rfl ?_
  refine k_topi (nI kn) hpk ?_
  refine k_iconst (v := nI 1) eX12_act_11 (by decide) ?_
  refine k_isub eX12_act_12 ?_
  refine cS1 (M' := MX12_in) eX12_act_13 mX12_120 wX12_in sX12_in rfl (pX12_in (nI p) (nI 0) ((nI kn - nI 1))) (by decide) (Nat.le_of_ble_eq_true rfl) ?_
  refine k_ifb_eq 28 eX12_act_16 (by decide) (fun c_16 => by exact absurd ((pIn_W (k := kn) (by omega) _).mpr ⟨nI_pos' (by omega), nI_lt hpp (by omega)⟩) c_16) (fun c_16 => ?_)
  refine k_iload_n eX12_act_19 rfl ?_
  refine k_iconst (v := nI 0) eX12_act_20 (by decide) ?_
  refine k_iconst (v := nI 3) eX12_act_21 (by decide) ?_
  refine cS1 (M' := MX12_in) eX12_act_22 mX12_120 wX12_in sX12_in rfl (pX12_in (nI 2) (nI 0) (nI 3)) (by decide) (Nat.le_of_ble_eq_true rfl) ?_
  refine k_ifb_ne 30 eX12_act_25 (by decide) (fun c_25 => ?_) (fun c_25 => by exact absurd ⟨by decide, by decide⟩ c_25)
  refine k_aload_n eX12_act_30 rfl ?_
  refine k_iload_n eX12_act_31 rfl ?_
  refine PX12_317 eX12_act_32 rfl ?_
  refine k_aload_n eX12_act_35 rfl ?_
  refine GX12_74 eX12_act_36 rfl ?_
  refine k_iload_n eX12_act_39 rfl ?_
  refine k_ialdN (j := p) eX12_act_40 (ar72 _) (by omega) (Nat.le_of_ble_eq_true rfl) ?_
  refine k_topi (nI 6) hk ?_
  refine k_istore (L2 := [_, _, _, _, _]) eX12_act_41 (Nat.le_of_ble_eq_true rfl) rfl ?_
  refine k_iload_n eX12_act_43 rfl ?_
  refine k_if_neN 57 eX12_act_44 (by decide) (by omega) (fun c_44 => ?_) (fun c_44 => by exfalso; omega)
  refine k_iload_n eX12_act_57 rfl ?_
  refine k_iconst (v := nI 1) eX12_act_58 (by decide) ?_
  refine k_icmp_neN 72 eX12_act_59 (by decide) (by omega) (by omega) (fun c_59 => ?_) (fun c_59 => by exfalso; omega)
  refine k_iload_n eX12_act_72 rfl ?_
  refine k_iconst (v := nI 2) eX12_act_73 (by decide) ?_
  refine k_icmp_neN 87 eX12_act_74 (by decide) (by omega) (by omega) (fun c_74 => by exfalso; omega) (fun c_74 => ?_)
  refine k_aload_n eX12_act_77 rfl ?_
  refine k_iload eX12_act_78 rfl ?_
  refine k_iload_n eX12_act_80 rfl ?_
  refine cV1 (M' := MX12_countsIn) eX12_act_81 mX12_323 wX12_countsIn vX12_countsIn ⟨_, _, _, rfl, rfl, rfl⟩ rfl (pX12_countsIn_6_6 (S := (si (si S 2629 (nI 0)) 2647 (nI p))) (B := S.2.1 72) (n := 0) (p := p) (nb := nI p) rfl rfl rfl (by decide) (by omega) hk x rfl) (by decide) (Nat.le_of_ble_eq_true rfl) ?_
  refine k_goto 94 eX12_act_84 (by decide) ?_
  refine k_ireturn eX12_act_94 rfl rfl ?_
  exact ⟨rfl, rfl⟩
set_option maxHeartbeats 400000 in
theorem pX12_act_6_3 {S : k_S} {p kn : Nat} (hpk : S.1 2627 = nI kn) (hpp : p < kn) (hkn : kn ≤ 50) (hk : S.2.1 72 p = nI 6) (x : Int32) : Sp 13 0 0 MX12_act [.ref 52, .int (nI p), .int (nI 3), .int (x)] (hp S) (Rt (some (.int (acV 6 3 x (nI p)))) (hp (mAcS S p 6 3))) := by
  refine Sp_of (by decide +kernel) (Nat.le_of_ble_eq_true rfl) ?_
  show AW none MX12_act 13 0 0 0 [.ref 52, .int (nI p), .int (nI 3), .int (x), .null] [] (hp S) _
  refine k_aload_n eX12_act_0 rfl ?_
  refine k_iconst (v := nI 0) eX12_act_1 (by decide) ?_
  refine PX12_305 eX12_act_2 rfl ?_
  refine k_iload_n eX12_act_5 rfl ?_
  refine k_iconst (v := nI 0) eX12_act_6 (by decide) ?_
  refine k_aload_n eX12_act_7 rfl ?_
  refine GX12_302 eX12_act_8 rfl ?_
  refine k_topi (nI kn) hpk ?_
  refine k_iconst (v := nI 1) eX12_act_11 (by decide) ?_
  refine k_isub eX12_act_12 ?_
  refine cS1 (M' := MX12_in) eX12_act_13 mX12_120 wX12_in sX12_in rfl (pX12_in (nI p) (nI 0) ((nI kn - nI 1))) (by decide) (Nat.le_of_ble_eq_true rfl) ?_
  refine k_ifb_eq 28 eX12_act_16 (by decide) (fun c_16 => by exact absurd ((pIn_W (k := kn) (by omega) _).mpr ⟨nI_pos' (by omega), nI_lt hpp (by omega)⟩) c_16) (fun c_16 => ?_)
  refine k_iload_n eX12_act_19 rfl ?_
  refine k_iconst (v := nI 0) eX12_act_20 (by decide) ?_
  refine k_iconst (v := nI 3) eX12_act_21 (by decide) ?_
  refine cS1 (M' := MX12_in) eX12_act_22 mX12_120 wX12_in sX12_in rfl (pX12_in (nI 3) (nI 0) (nI 3)) (by decide) (Nat.le_of_ble_eq_true rfl) ?_
  refine k_ifb_ne 30 eX12_act_25 (by decide) (fun c_25 => ?_) (fun c_25 => by exact absurd ⟨by decide, by decide⟩ c_25)
  refine k_aload_n eX12_act_30 rfl ?_
  refine k_iload_n eX12_act_31 rfl ?_
  refine PX12_317 eX12_act_32 rfl ?_
  refine k_aload_n eX12_act_35 rfl ?_
  refine GX12_74 eX12_act_36 rfl ?_
  refine k_iload_n eX12_act_39 rfl ?_
  refine k_ialdN (j := p) eX12_act_40 (ar72 _) (by omega) (Nat.le_of_ble_eq_true rfl) ?_
  refine k_topi (nI 6) hk ?_
  refine k_istore (L2 := [_, _, _, _, _]) eX12_act_41 (Nat.le_of_ble_eq_true rfl) rfl ?_
  refine k_iload_n eX12_act_43 rfl ?_
  refine k_if_neN 57 eX12_act_44 (by decide) (by omega) (fun c_44 => ?_) (fun c_44 => by exfalso; omega)
  refine k_iload_n eX12_act_57 rfl ?_
  refine k_iconst (v := nI 1) eX12_act_58 (by decide) ?_
  refine k_icmp_neN 72 eX12_act_59 (by decide) (by omega) (by omega) (fun c_59 => ?_) (fun c_59 => by exfalso; omega)
  refine k_iload_n eX12_act_72 rfl ?_
  refine k_iconst (v := nI 2) eX12_act_73 (by decide) ?_
  refine k_icmp_neN 87 eX12_act_74 (by decide) (by omega) (by omega) (fun c_74 => ?_) (fun c_74 => by exfalso; omega)
  refine k_aload_n eX12_act_87 rfl ?_
  refine k_iload eX12_act_88 rfl ?_
  refine k_iload_n eX12_act_90 rfl ?_
  refine cV1 (M' := MX12_tells) eX12_act_91 mX12_326 wX12_tells vX12_tells ⟨_, _, _, rfl, rfl, rfl⟩ rfl (pX12_tells_6_6 (S := (si (si S 2629 (nI 0)) 2647 (nI p))) (B := S.2.1 72) (n := 0) (p := p) (nb := nI p) rfl rfl rfl (by decide) (by omega) hk x rfl) (by decide) (Nat.le_of_ble_eq_true rfl) ?_
  refine k_ireturn eX12_act_94 rfl rfl ?_
  exact ⟨rfl, rfl⟩
set_option maxHeartbeats 400000 in
theorem pX12_act_7_0 {S : k_S} {p kn : Nat} (hpk : S.1 2627 = nI kn) (hpp : p < kn) (hkn : kn ≤ 50) (hk : S.2.1 72 p = nI 7) (x : Int32) : Sp 13 0 0 MX12_act [.ref 52, .int (nI p), .int (nI 0), .int (x)] (hp S) (Rt (some (.int (acV 7 0 x (nI p)))) (hp (mAcS S p 7 0))) := by
  refine Sp_of (by decide +kernel) (Nat.le_of_ble_eq_true rfl) ?_
  show AW none MX12_act 13 0 0 0 [.ref 52, .int (nI p), .int (nI 0), .int (x), .null] [] (hp S) _
  refine k_aload_n eX12_act_0 rfl ?_
  refine k_iconst (v := nI 0) eX12_act_1 (by decide) ?_
  refine PX12_305 eX12_act_2 rfl ?_
  refine k_iload_n eX12_act_5 rfl ?_
  refine k_iconst (v := nI 0) eX12_act_6 (by decide) ?_
  refine k_aload_n eX12_act_7 rfl ?_
  refine GX12_302 eX12_act_8 rfl ?_
  refine k_topi (nI kn) hpk ?_
  refine k_iconst (v := nI 1) eX12_act_11 (by decide) ?_
  refine k_isub eX12_act_12 ?_
  refine cS1 (M' := MX12_in) eX12_act_13 mX12_120 wX12_in sX12_in rfl (pX12_in (nI p) (nI 0) ((nI kn - nI 1))) (by decide) (Nat.le_of_ble_eq_true rfl) ?_
  refine k_ifb_eq 28 eX12_act_16 (by decide) (fun c_16 => by exact absurd ((pIn_W (k := kn) (by omega) _).mpr ⟨nI_pos' (by omega), nI_lt hpp (by omega)⟩) c_16) (fun c_16 => ?_)
  refine k_iload_n eX12_act_19 rfl ?_
  refine k_iconst (v := nI 0) eX12_act_20 (by decide) ?_
  refine k_iconst (v := nI 3) eX12_act_21 (by decide) ?_
  refine cS1 (M' := MX12_in) eX12_act_22 mX12_120 wX12_in sX12_in rfl (pX12_in (nI 0) (nI 0) (nI 3)) (by decide) (Nat.le_of_ble_eq_true rfl) ?_
  refine k_ifb_ne 30 eX12_act_25 (by decide) (fun c_25 => ?_) (fun c_25 => by exact absurd ⟨by decide, by decide⟩ c_25)
  refine k_aload_n eX12_act_30 rfl ?_
  refine k_iload_n eX12_act_31 rfl ?_
  refine PX12_317 eX12_act_32 rfl ?_
  refine k_aload_n eX12_act_35 rfl ?_
  refine GX12_74 eX12_act_36 rfl ?_
  refine k_iload_n eX12_act_39 rfl ?_
  refine k_ialdN (j := p) eX12_act_40 (ar72 _) (by omega) (Nat.le_of_ble_eq_true rfl) ?_
  refine k_topi (nI 7) hk ?_
  refine k_istore (L2 := [_, _, _, _, _]) eX12_act_41 (Nat.le_of_ble_eq_true rfl) rfl ?_
  refine k_iload_n eX12_act_43 rfl ?_
  refine k_if_neN 57 eX12_act_44 (by decide) (by omega) (fun c_44 => by exfalso; omega) (fun c_44 => ?_)
  refine k_aload_n eX12_act_47 rfl ?_
  refine k_iload eX12_act_48 rfl ?_
  refine k_iload_n eX12_act_50 rfl ?_
  refine cV1 (M' := MX12_worksIn) eX12_act_51 mX12_314 wX12_worksIn vX12_worksIn ⟨_, _, _, rfl, rfl, rfl⟩ rfl (pX12_worksIn_7_7 (S := (si (si S 2629 (nI 0)) 2647 (nI p))) (B := S.2.1 72) (n := 0) (p := p) (nb := nI p) rfl rfl rfl (by decide) (by omega) hk x rfl) (by decide) (Nat.le_of_ble_eq_true rfl) ?_
  refine k_goto 94 eX12_act_54 (by decide) ?_
  refine k_ireturn eX12_act_94 rfl rfl ?_
  exact ⟨rfl, rfl⟩
set_option maxHeartbeats 400000 in
theorem pX12_act_7_1 {S : k_S} {p kn : Nat} (hpk : S.1 2627 = nI kn) (hpp : p < kn) (hkn : kn ≤ 50) (hk : S.2.1 72 p = nI 7) (x : Int32) : Sp 13 0 0 MX12_act [.ref 52, .int (nI p), .int (nI 1), .int (x)] (hp S) (Rt (some (.int (acV 7 1 x (nI p)))) (hp (mAcS S p 7 1))) := by
  refine Sp_of (by decide +kernel) (Nat.le_of_ble_eq_true rfl) ?_
  show AW none MX12_act 13 0 0 0 [.ref 52, .int (nI p), .int (nI 1), .int (x), .null] [] (hp S) _
  refine k_aload_n eX12_act_0 rfl ?_
  refine k_iconst (v := nI 0) eX12_act_1 (by decide) ?_
  refine PX12_305 eX12_act_2 rfl ?_
  refine k_iload_n eX12_act_5 rfl ?_
  refine k_iconst (v := nI 0) eX12_act_6 (by decide) ?_
  refine k_aload_n eX12_act_7 rfl ?_
  refine GX12_302 eX12_act_8 rfl ?_
  refine k_topi (nI kn) hpk ?_
  refine k_iconst (v := nI 1) eX12_act_11 (by decide) ?_
  refine k_isub eX12_act_12 ?_
  refine cS1 (M' := MX12_in) eX12_act_13 mX12_120 wX12_in sX12_in rfl (pX12_in (nI p) (nI 0) ((nI kn - nI 1))) (by decide) (Nat.le_of_ble_eq_true rfl) ?_
  refine k_ifb_eq 28 eX12_act_16 (by decide) (fun c_16 => by exact absurd ((pIn_W (k := kn) (by omega) _).mpr ⟨nI_pos' (by omega), nI_lt hpp (by omega)⟩) c_16) (fun c_16 => ?_)
  refine k_iload_n eX12_act_19 rfl ?_
  refine k_iconst (v := nI 0) eX12_act_20 (by decide) ?_
  refine k_iconst (v := nI 3) eX12_act_21 (by decide) ?_
  refine cS1 (M' := MX12_in) eX12_act_22 mX12_120 wX12_in sX12_in rfl (pX12_in (nI 1) (nI 0) (nI 3)) (by decide) (Nat.le_of_ble_eq_true rfl) ?_
  refine k_ifb_ne 30 eX12_act_25 (by decide) (fun c_25 => ?_) (fun c_25 => by exact absurd ⟨by decide, by decide⟩ c_25)
  refine k_aload_n eX12_act_30 rfl ?_
  refine k_iload_n eX12_act_31 rfl ?_
  refine PX12_317 eX12_act_32 rfl ?_
  refine k_aload_n eX12_act_35 rfl ?_
  refine GX12_74 eX12_act_36 rfl ?_
  refine k_iload_n eX12_act_39 rfl ?_
  refine k_ialdN (j := p) eX12_act_40 (ar72 _) (by omega) (Nat.le_of_ble_eq_true rfl) ?_
  refine k_topi (nI 7) hk ?_
  refine k_istore (L2 := [_, _, _, _, _]) eX12_act_41 (Nat.le_of_ble_eq_true rfl) rfl ?_
  refine k_iload_n eX12_act_43 rfl ?_
  refine k_if_neN 57 eX12_act_44 (by decide) (by omega) (fun c_44 => ?_) (fun c_44 => by exfalso; omega)
  refine k_iload_n eX12_act_57 rfl ?_
  refine k_iconst (v := nI 1) eX12_act_58 (by decide) ?_
  refine k_icmp_neN 72 eX12_act_59 (by decide) (by omega) (by omega) (fun c_59 => by exfalso; omega) (fun c_59 => ?_)
  refine k_aload_n eX12_act_62 rfl ?_
  refine k_iload eX12_act_63 rfl ?_
  refine k_iload_n eX12_act_65 rfl ?_
  refine cV1 (M' := MX12_restsIn) eX12_act_66 mX12_320 wX12_restsIn vX12_restsIn ⟨_, _, _, rfl, rfl, rfl⟩ rfl (pX12_restsIn_7_7 (S := (si (si S 2629 (nI 0)) 2647 (nI p))) (B := S.2.1 72) (n := 0) (p := p) (nb := nI p) rfl rfl rfl (by decide) (by omega) hk x rfl) (by decide) (Nat.le_of_ble_eq_true rfl) ?_
  refine k_goto 94 eX12_act_69 (by decide) ?_
  refine k_ireturn eX12_act_94 rfl rfl ?_
  exact ⟨rfl, rfl⟩
set_option maxHeartbeats 400000 in
theorem pX12_act_7_2 {S : k_S} {p kn : Nat} (hpk : S.1 2627 = nI kn) (hpp : p < kn) (hkn : kn ≤ 50) (hk : S.2.1 72 p = nI 7) (x : Int32) : Sp 13 0 0 MX12_act [.ref 52, .int (nI p), .int (nI 2), .int (x)] (hp S) (Rt (some (.int (acV 7 2 x (nI p)))) (hp (mAcS S p 7 2))) := by
  refine Sp_of (by decide +kernel) (Nat.le_of_ble_eq_true rfl) ?_
  show AW none MX12_act 13 0 0 0 [.ref 52, .int (nI p), .int (nI 2), .int (x), .null] [] (hp S) _
  refine k_aload_n eX12_act_0 rfl ?_
  refine k_iconst (v := nI 0) eX12_act_1 (by decide) ?_
  refine PX12_305 eX12_act_2 rfl ?_
  refine k_iload_n eX12_act_5 rfl ?_
  refine k_iconst (v := nI 0) eX12_act_6 (by decide) ?_
  refine k_aload_n eX12_act_7 rfl ?_
  refine GX12_302 eX12_act_8 rfl ?_
  refine k_topi (nI kn) hpk ?_
  refine k_iconst (v := nI 1) eX12_act_11 (by decide) ?_
  refine k_isub eX12_act_12 ?_
  refine cS1 (M' := MX12_in) eX12_act_13 mX12_120 wX12_in sX12_in rfl (pX12_in (nI p) (nI 0) ((nI kn - nI 1))) (by decide) (Nat.le_of_ble_eq_true rfl) ?_
  refine k_ifb_eq 28 eX12_act_16 (by decide) (fun c_16 => by exact absurd ((pIn_W (k := kn) (by omega) _).mpr ⟨nI_pos' (by omega), nI_lt hpp (by omega)⟩) c_16) (fun c_16 => ?_)
  refine k_iload_n eX12_act_19 rfl ?_
  refine k_iconst (v := nI 0) eX12_act_20 (by decide) ?_
  refine k_iconst (v := nI 3) eX12_act_21 (by decide) ?_
  refine cS1 (M' := MX12_in) eX12_act_22 mX12_120 wX12_in sX12_in rfl (pX12_in (nI 2) (nI 0) (nI 3)) (by decide) (Nat.le_of_ble_eq_true rfl) ?_
  refine k_ifb_ne 30 eX12_act_25 (by decide) (fun c_25 => ?_) (fun c_25 => by exact absurd ⟨by decide, by decide⟩ c_25)
  refine k_aload_n eX12_act_30 rfl ?_
  refine k_iload_n eX12_act_31 rfl ?_
  refine PX12_317 eX12_act_32 rfl ?_
  refine k_aload_n eX12_act_35 rfl ?_
  refine GX12_74 eX12_act_36 rfl ?_
  refine k_iload_n eX12_act_39 rfl ?_
  refine k_ialdN (j := p) eX12_act_40 (ar72 _) (by omega) (Nat.le_of_ble_eq_true rfl) ?_
  refine k_topi (nI 7) hk ?_
  refine k_istore (L2 := [_, _, _, _, _]) eX12_act_41 (Nat.le_of_ble_eq_true rfl) rfl ?_
  refine k_iload_n eX12_act_43 rfl ?_
  refine k_if_neN 57 eX12_act_44 (by decide) (by omega) (fun c_44 => ?_) (fun c_44 => by exfalso; omega)
  refine k_iload_n eX12_act_57 rfl ?_
  refine k_iconst (v := nI 1) eX12_act_58 (by decide) ?_
  refine k_icmp_neN 72 eX12_act_59 (by decide) (by omega) (by omega) (fun c_59 => ?_) (fun c_59 => by exfalso; omega)
  refine k_iload_n eX12_act_72 rfl ?_
  refine k_iconst (v := nI 2) eX12_act_73 (by decide) ?_
  refine k_icmp_neN 87 eX12_act_74 (by decide) (by omega) (by omega) (fun c_74 => by exfalso; omega) (fun c_74 => ?_)
  refine k_aload_n eX12_act_77 rfl ?_
  refine k_iload eX12_act_78 rfl ?_
  refine k_iload_n eX12_act_80 rfl ?_
  refine cV1 (M' := MX12_countsIn) eX12_act_81 mX12_323 wX12_countsIn vX12_countsIn ⟨_, _, _, rfl, rfl, rfl⟩ rfl (pX12_countsIn_7_7 (S := (si (si S 2629 (nI 0)) 2647 (nI p))) (B := S.2.1 72) (n := 0) (p := p) (nb := nI p) rfl rfl rfl (by decide) (by omega) hk x rfl) (by decide) (Nat.le_of_ble_eq_true rfl) ?_
  refine k_goto 94 eX12_act_84 (by decide) ?_
  refine k_ireturn eX12_act_94 rfl rfl ?_
  exact ⟨rfl, rfl⟩
set_option maxHeartbeats 400000 in
theorem pX12_act_7_3 {S : k_S} {p kn : Nat} (hpk : S.1 2627 = nI kn) (hpp : p < kn) (hkn : kn ≤ 50) (hk : S.2.1 72 p = nI 7) (x : Int32) : Sp 13 0 0 MX12_act [.ref 52, .int (nI p), .int (nI 3), .int (x)] (hp S) (Rt (some (.int (acV 7 3 x (nI p)))) (hp (mAcS S p 7 3))) := by
  refine Sp_of (by decide +kernel) (Nat.le_of_ble_eq_true rfl) ?_
  show AW none MX12_act 13 0 0 0 [.ref 52, .int (nI p), .int (nI 3), .int (x), .null] [] (hp S) _
  refine k_aload_n eX12_act_0 rfl ?_
  refine k_iconst (v := nI 0) eX12_act_1 (by decide) ?_
  refine PX12_305 eX12_act_2 rfl ?_
  refine k_iload_n eX12_act_5 rfl ?_
  refine k_iconst (v := nI 0) eX12_act_6 (by decide) ?_
  refine k_aload_n eX12_act_7 rfl ?_
  refine GX12_302 eX12_act_8 rfl ?_
  refine k_topi (nI kn) hpk ?_
  refine k_iconst (v := nI 1) eX12_act_11 (by decide) ?_
  refine k_isub eX12_act_12 ?_
  refine cS1 (M' := MX12_in) eX12_act_13 mX12_120 wX12_in sX12_in rfl (pX12_in (nI p) (nI 0) ((nI kn - nI 1))) (by decide) (Nat.le_of_ble_eq_true rfl) ?_
  refine k_ifb_eq 28 eX12_act_16 (by decide) (fun c_16 => by exact absurd ((pIn_W (k := kn) (by omega) _).mpr ⟨nI_pos' (by omega), nI_lt hpp (by omega)⟩) c_16) (fun c_16 => ?_)
  refine k_iload_n eX12_act_19 rfl ?_
  refine k_iconst (v := nI 0) eX12_act_20 (by decide) ?_
  refine k_iconst (v := nI 3) eX12_act_21 (by decide) ?_
  refine cS1 (M' := MX12_in) eX12_act_22 mX12_120 wX12_in sX12_in rfl (pX12_in (nI 3) (nI 0) (nI 3)) (by decide) (Nat.le_of_ble_eq_true rfl) ?_
  refine k_ifb_ne 30 eX12_act_25 (by decide) (fun c_25 => ?_) (fun c_25 => by exact absurd ⟨by decide, by decide⟩ c_25)
  refine k_aload_n eX12_act_30 rfl ?_
  refine k_iload_n eX12_act_31 rfl ?_
  refine PX12_317 eX12_act_32 rfl ?_
  refine k_aload_n eX12_act_35 rfl ?_
  refine GX12_74 eX12_act_36 rfl ?_
  refine k_iload_n eX12_act_39 rfl ?_
  refine k_ialdN (j := p) eX12_act_40 (ar72 _) (by omega) (Nat.le_of_ble_eq_true rfl) ?_
  refine k_topi (nI 7) hk ?_
  refine k_istore (L2 := [_, _, _, _, _]) eX12_act_41 (Nat.le_of_ble_eq_true rfl) rfl ?_
  refine k_iload_n eX12_act_43 rfl ?_
  refine k_if_neN 57 eX12_act_44 (by decide) (by omega) (fun c_44 => ?_) (fun c_44 => by exfalso; omega)
  refine k_iload_n eX12_act_57 rfl ?_
  refine k_iconst (v := nI 1) eX12_act_58 (by decide) ?_
  refine k_icmp_neN 72 eX12_act_59 (by decide) (by omega) (by omega) (fun c_59 => ?_) (fun c_59 => by exfalso; omega)
  refine k_iload_n eX12_act_72 rfl ?_
  refine k_iconst (v := nI 2) eX12_act_73 (by decide) ?_
  refine k_icmp_neN 87 eX12_act_74 (by decide) (by omega) (by omega) (fun c_74 => ?_) (fun c_74 => by exfalso; omega)
  refine k_aload_n eX12_act_87 rfl ?_
  refine k_iload eX12_act_88 rfl ?_
  refine k_iload_n eX12_act_90 rfl ?_
  refine cV1 (M' := MX12_tells) eX12_act_91 mX12_326 wX12_tells vX12_tells ⟨_, _, _, rfl, rfl, rfl⟩ rfl (pX12_tells_7_7 (S := (si (si S 2629 (nI 0)) 2647 (nI p))) (B := S.2.1 72) (n := 0) (p := p) (nb := nI p) rfl rfl rfl (by decide) (by omega) hk x rfl) (by decide) (Nat.le_of_ble_eq_true rfl) ?_
  refine k_ireturn eX12_act_94 rfl rfl ?_
  exact ⟨rfl, rfl⟩
set_option maxHeartbeats 400000 in
theorem pX12_actN {S : k_S} {kn : Nat} (hpk : S.1 2627 = nI kn) (hkn : kn ≤ 50) (p s x : Int32) (hb : ¬ pAct (S.1 2627) p s) : Sp 13 0 0 MX12_act [.ref 52, .int (p), .int (s), .int (x)] (hp S) (Rt (some (.int (nI 0))) (hp (si S 2629 (nI 0)))) := by
  refine Sp_of (by decide +kernel) (Nat.le_of_ble_eq_true rfl) ?_
  show AW none MX12_act 13 0 0 0 [.ref 52, .int (p), .int (s), .int (x), .null] [] (hp S) _
  refine k_aload_n eX12_act_0 rfl ?_
  refine k_iconst (v := nI 0) eX12_act_1 (by decide) ?_
  refine PX12_305 eX12_act_2 rfl ?_
  refine k_iload_n eX12_act_5 rfl ?_
  refine k_iconst (v := nI 0) eX12_act_6 (by decide) ?_
  refine k_aload_n eX12_act_7 rfl ?_
  refine GX12_302 eX12_act_8 rfl ?_
  refine k_topi (nI kn) hpk ?_
  refine k_iconst (v := nI 1) eX12_act_11 (by decide) ?_
  refine k_isub eX12_act_12 ?_
  refine cS1 (M' := MX12_in) eX12_act_13 mX12_120 wX12_in sX12_in rfl (pX12_in (p) (nI 0) ((nI kn - nI 1))) (by decide) (Nat.le_of_ble_eq_true rfl) ?_
  refine k_ifb_eq 28 eX12_act_16 (by decide) (fun c_16 => ?_) (fun c_16 => ?_)
  · refine k_iconst (v := nI 0) eX12_act_28 (by decide) ?_
    refine k_ireturn eX12_act_29 rfl rfl ?_
    exact ⟨rfl, rfl⟩
  refine k_iload_n eX12_act_19 rfl ?_
  refine k_iconst (v := nI 0) eX12_act_20 (by decide) ?_
  refine k_iconst (v := nI 3) eX12_act_21 (by decide) ?_
  refine cS1 (M' := MX12_in) eX12_act_22 mX12_120 wX12_in sX12_in rfl (pX12_in (s) (nI 0) (nI 3)) (by decide) (Nat.le_of_ble_eq_true rfl) ?_
  refine k_ifb_ne 30 eX12_act_25 (by decide) (fun c_25 => by exact absurd ⟨by rw [hpk]; exact (pIn_W (k := kn) (by omega) _).mp c_16, c_25⟩ hb) (fun c_25 => ?_)
  refine k_iconst (v := nI 0) eX12_act_28 (by decide) ?_
  refine k_ireturn eX12_act_29 rfl rfl ?_
  exact ⟨rfl, rfl⟩
def aMAct (S : k_S) (p s x : Int32) : Int32 := if pAct (S.1 2627) p s then acV (ix (S.2.1 72 (ix p))) (ix s) x p else nI 0
def mAct (S : k_S) (p s : Int32) : k_S := if pAct (S.1 2627) p s then mAcS S (ix p) (ix (S.2.1 72 (ix p))) (ix s) else si S 2629 (nI 0)
theorem pX12_act {S : k_S} {kn : Nat} (hk : mKdOk S kn) (p s x : Int32) : Sp 13 0 0 MX12_act [.ref 52, .int p, .int s, .int x] (hp S) (Rt (some (.int (aMAct S p s x))) (hp (mAct S p s))) := by
  by_cases h : pAct (S.1 2627) p s
  · rw [aMAct, mAct, if_pos h, if_pos h]
    obtain ⟨p, hpp, rfl⟩ := pW_ex h.1 hk.1 (by have := hk.2.1; omega)
    obtain ⟨s, hs, rfl⟩ := k_rngle h.2.1 h.2.2 (by decide)
    obtain ⟨K, hK, e⟩ := hk.2.2 p hpp
    have h50 := hk.2.1
    rw [ix_nI (by omega), ix_nI (by omega), e, ix_nI (by omega)]
    rcases (by omega : K = 0 ∨ K = 1 ∨ K = 2 ∨ K = 3 ∨ K = 4 ∨ K = 5 ∨ K = 6 ∨ K = 7) with rfl | rfl | rfl | rfl | rfl | rfl | rfl | rfl <;> rcases (by omega : s = 0 ∨ s = 1 ∨ s = 2 ∨ s = 3) with rfl | rfl | rfl | rfl
    · exact pX12_act_0_0 hk.1 hpp hk.2.1 e x
    · exact pX12_act_0_1 hk.1 hpp hk.2.1 e x
    · exact pX12_act_0_2 hk.1 hpp hk.2.1 e x
    · exact pX12_act_0_3 hk.1 hpp hk.2.1 e x
    · exact pX12_act_1_0 hk.1 hpp hk.2.1 e x
    · exact pX12_act_1_1 hk.1 hpp hk.2.1 e x
    · exact pX12_act_1_2 hk.1 hpp hk.2.1 e x
    · exact pX12_act_1_3 hk.1 hpp hk.2.1 e x
    · exact pX12_act_2_0 hk.1 hpp hk.2.1 e x
    · exact pX12_act_2_1 hk.1 hpp hk.2.1 e x
    · exact pX12_act_2_2 hk.1 hpp hk.2.1 e x
    · exact pX12_act_2_3 hk.1 hpp hk.2.1 e x
    · exact pX12_act_3_0 hk.1 hpp hk.2.1 e x
    · exact pX12_act_3_1 hk.1 hpp hk.2.1 e x
    · exact pX12_act_3_2 hk.1 hpp hk.2.1 e x
    · exact pX12_act_3_3 hk.1 hpp hk.2.1 e x
    · exact pX12_act_4_0 hk.1 hpp hk.2.1 e x
    · exact pX12_act_4_1 hk.1 hpp hk.2.1 e x
    · exact pX12_act_4_2 hk.1 hpp hk.2.1 e x
    · exact pX12_act_4_3 hk.1 hpp hk.2.1 e x
    · exact pX12_act_5_0 hk.1 hpp hk.2.1 e x
    · exact pX12_act_5_1 hk.1 hpp hk.2.1 e x
    · exact pX12_act_5_2 hk.1 hpp hk.2.1 e x
    · exact pX12_act_5_3 hk.1 hpp hk.2.1 e x
    · exact pX12_act_6_0 hk.1 hpp hk.2.1 e x
    · exact pX12_act_6_1 hk.1 hpp hk.2.1 e x
    · exact pX12_act_6_2 hk.1 hpp hk.2.1 e x
    · exact pX12_act_6_3 hk.1 hpp hk.2.1 e x
    · exact pX12_act_7_0 hk.1 hpp hk.2.1 e x
    · exact pX12_act_7_1 hk.1 hpp hk.2.1 e x
    · exact pX12_act_7_2 hk.1 hpp hk.2.1 e x
    · exact pX12_act_7_3 hk.1 hpp hk.2.1 e x
  · rw [aMAct, mAct, if_neg h, if_neg h]
    exact pX12_actN hk.1 hk.2.1 p s x h
def mTrc (S : k_S) (i : Int32) : Int32 := if 0 ≤ i ∧ i < S.1 2629 ∧ i < nI 24 then S.2.1 73 (ix i) else -1
theorem mTrc_c {n : Nat} (hn : n < 2 ^ 30) {x m : Int32} (hm : m = if nI n < nI 24 then nI n else nI 24) : pIn x (nI 0) (m - nI 1) ↔ 0 ≤ x ∧ x < nI n ∧ x < nI 24 := by
  by_cases c : n < 24
  · rw [if_pos (nI_lt c (by omega))] at hm
    subst hm
    rw [pIn_W (by omega), pW]
    exact ⟨fun q => ⟨q.1, q.2, Int32.lt_trans q.2 (nI_lt c (by omega))⟩, fun q => ⟨q.1, q.2.1⟩⟩
  · rw [if_neg (Int32.not_lt.mpr (nI_le (by omega) (by omega)))] at hm
    subst hm
    rw [pIn_W (by omega), pW]
    exact ⟨fun q => ⟨q.1, Int32.lt_of_lt_of_le q.2 (nI_le (by omega) (by omega)), q.2⟩, fun q => ⟨q.1, q.2.2⟩⟩
set_option maxHeartbeats 400000 in
theorem pX12_trace {S : k_S} {n : Nat} (hn : S.1 2629 = nI n) (hn30 : n < 2 ^ 30) (x : Int32) : Sp 1 0 0 MX12_trace [.ref 52, .int (x)] (hp S) (Rt (some (.int (mTrc S x))) (hp S)) := by
  refine Sp_of (by decide +kernel) (Nat.le_of_ble_eq_true rfl) ?_
  show AW none MX12_trace 1 0 0 0 [.ref 52, .int (x)] [] (hp S) _
  refine k_iload_n eX12_trace_0 rfl ?_
  refine k_iconst (v := nI 0) eX12_trace_1 (by decide) ?_
  refine k_aload_n eX12_trace_2 rfl ?_
  refine GX12_305 eX12_trace_3 rfl ?_
  refine k_topi (nI n) hn ?_
  refine k_bipush (v := nI 24) eX12_trace_6 (by decide) ?_
  refine k_icmp_geN 18 eX12_trace_8 (by decide) (by omega) (by omega) (fun c_8 => ?_) (fun c_8 => ?_)
  · refine k_bipush (v := nI 24) eX12_trace_18 (by decide) ?_
    refine k_iconst (v := nI 1) eX12_trace_20 (by decide) ?_
    refine k_isub eX12_trace_21 ?_
    refine cS1 (M' := MX12_in) eX12_trace_22 mX12_120 wX12_in sX12_in rfl (pX12_in (x) (nI 0) ((nI 24 - nI 1))) (by decide) (Nat.le_of_ble_eq_true rfl) ?_
    refine k_ifb_eq 37 eX12_trace_25 (by decide) (fun c_25 => ?_) (fun c_25 => ?_)
    · refine k_iconst (v := (-1)) eX12_trace_37 (by decide) ?_
      refine k_ireturn eX12_trace_38 rfl rfl ?_
      exact ⟨by rw [mTrc, hn, if_neg (fun q => c_25 ((mTrc_c (by omega) (by first | (rw [if_pos (nI_lt (by omega) (by omega))]) | (rw [if_neg (Int32.not_lt.mpr (nI_le (by omega) (by omega)))]))).mpr q))], rfl⟩
    have hC : 0 ≤ x ∧ x < nI n ∧ x < nI 24 := ((mTrc_c (by omega) (by first | (rw [if_pos (nI_lt (by omega) (by omega))]) | (rw [if_neg (Int32.not_lt.mpr (nI_le (by omega) (by omega)))]))).mp c_25)
    obtain ⟨j, hj, rfl⟩ := k_rng hC.1 hC.2.2 (by decide)
    refine k_aload_n eX12_trace_28 rfl ?_
    refine GX12_77 eX12_trace_29 rfl ?_
    refine k_iload_n eX12_trace_32 rfl ?_
    refine k_ialdN (j := j) eX12_trace_33 (ar73 _) (by omega) (Nat.le_of_ble_eq_true rfl) ?_
    refine k_goto 38 eX12_trace_34 (by decide) ?_
    refine k_ireturn eX12_trace_38 rfl rfl ?_
    exact ⟨by rw [mTrc, hn, if_pos hC, ix_nI (by omega)], rfl⟩
  refine k_aload_n eX12_trace_11 rfl ?_
  refine GX12_305 eX12_trace_12 rfl ?_
  refine k_topi (nI n) hn ?_
  refine k_goto 20 eX12_trace_15 (by decide) ?_
  refine k_iconst (v := nI 1) eX12_trace_20 (by decide) ?_
  refine k_isub eX12_trace_21 ?_
  refine cS1 (M' := MX12_in) eX12_trace_22 mX12_120 wX12_in sX12_in rfl (pX12_in (x) (nI 0) ((nI n - nI 1))) (by decide) (Nat.le_of_ble_eq_true rfl) ?_
  refine k_ifb_eq 37 eX12_trace_25 (by decide) (fun c_25 => ?_) (fun c_25 => ?_)
  · refine k_iconst (v := (-1)) eX12_trace_37 (by decide) ?_
    refine k_ireturn eX12_trace_38 rfl rfl ?_
    exact ⟨by rw [mTrc, hn, if_neg (fun q => c_25 ((mTrc_c (by omega) (by first | (rw [if_pos (nI_lt (by omega) (by omega))]) | (rw [if_neg (Int32.not_lt.mpr (nI_le (by omega) (by omega)))]))).mpr q))], rfl⟩
  have hC : 0 ≤ x ∧ x < nI n ∧ x < nI 24 := ((mTrc_c (by omega) (by first | (rw [if_pos (nI_lt (by omega) (by omega))]) | (rw [if_neg (Int32.not_lt.mpr (nI_le (by omega) (by omega)))]))).mp c_25)
  obtain ⟨j, hj, rfl⟩ := k_rng hC.1 hC.2.2 (by decide)
  refine k_aload_n eX12_trace_28 rfl ?_
  refine GX12_77 eX12_trace_29 rfl ?_
  refine k_iload_n eX12_trace_32 rfl ?_
  refine k_ialdN (j := j) eX12_trace_33 (ar73 _) (by omega) (Nat.le_of_ble_eq_true rfl) ?_
  refine k_goto 38 eX12_trace_34 (by decide) ?_
  refine k_ireturn eX12_trace_38 rfl rfl ?_
  exact ⟨by rw [mTrc, hn, if_pos hC, ix_nI (by omega)], rfl⟩
