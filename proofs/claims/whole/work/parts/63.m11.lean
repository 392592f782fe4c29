/-- days to the next that counts, as a natural -/
def tnG (V : k_V) (d j : Nat) : Nat := if nxt V d j = 120 then 99 else nxt V d j - d
theorem nxt_ge {V : k_V} {d dn : Nat} (h : CntOk V dn) (hd : d < 120) : ∀ n, n ≤ dn → d ≤ nxt V d n
  | 0, _ => by rw [nxt]; omega
  | n + 1, hn => by have := nxt_ge h hd n (by omega); rw [nxt]; split <;> omega
theorem tnG_gNx {V : k_V} {d dn : Nat} (h : CntOk V dn) (hd : d < 120) : nI (tnG V d dn) = gNx V dn d := by
  have := nxt_ge h hd dn (Nat.le_refl _)
  rw [tnG, gNx]
  by_cases c : nxt V d dn = 120
  · rw [if_pos c, if_pos c]
  · rw [if_neg c, if_neg c, pk_sub (by omega)]
set_option maxHeartbeats 400000 in
theorem lX12_toNext {d : Nat} {Po : Option Value → k_H → Prop} (hdd : 0 ≤ d) {S : k_S} {V : k_V} (hV : vM S = V) {dn : Nat} (hdn : S.1 2611 = nI dn) (hcd : CntOk V dn) {dd : Nat} (hdd2 : dd < 120) (kx : AW none MX12_toNext d 0 0 63 [.ref 52, .int (nI dd), .int (nI (tnG V dd dn)), .int (b2i (nxt V dd dn ≠ 120)), .int (nI dn)] [] (hp S) Po) : ∀ (n j : Nat), j + n = dn → AW none MX12_toNext d 0 0 8 [.ref 52, .int (nI dd), .int (nI (tnG V dd j)), .int (b2i (nxt V dd j ≠ 120)), .int (nI j)] [] (hp S) Po := by
  intro n
  induction n with
  | zero =>
    intro j hj
    rw [show j = dn by omega]
    have hd4 := hcd.1
    refine k_iload eX12_toNext_8 rfl ?_
    refine k_aload_n eX12_toNext_10 rfl ?_
    refine GX12_183 eX12_toNext_11 rfl ?_
    refine k_topi (nI dn) hdn ?_
    refine k_icmp_geN 63 eX12_toNext_14 (by decide) (by omega) (by omega) (fun c_14 => ?_) (fun c_14 => by exfalso; omega)
    exact kx
  | succ n ih =>
    intro j hj
    have hd4 := hcd.1
    have hcj := (hcd.2 j (by omega)).2
    have htl : tnG V dd j ≤ 120 := by rw [tnG]; have := nxt_le V dd j; split <;> omega
    refine k_iload eX12_toNext_8 rfl ?_
    refine k_aload_n eX12_toNext_10 rfl ?_
    refine GX12_183 eX12_toNext_11 rfl ?_
    refine k_topi (nI dn) hdn ?_
    refine k_icmp_geN 63 eX12_toNext_14 (by decide) (by omega) (by omega) (fun c_14 => by exfalso; omega) (fun c_14 => ?_)
    refine k_aload_n eX12_toNext_17 rfl ?_
    refine GX12_41 eX12_toNext_18 rfl ?_
    refine k_iload eX12_toNext_21 rfl ?_
    refine k_ialdN (j := j) eX12_toNext_23 (ar62 _) (by omega) (Nat.le_of_ble_eq_true rfl) ?_
    refine k_topi (nI (cN V j)) (mcd hV hcd (by omega)) ?_
    refine k_iload_n eX12_toNext_24 rfl ?_
    refine k_icmp_ltN 57 eX12_toNext_25 (by decide) (by omega) (by omega) (fun c_25 => ?_) (fun c_25 => ?_)
    · refine k_iincN (g := 1) (a := j) (L2 := [_, _, _, _, _]) eX12_toNext_57 (Nat.le_of_ble_eq_true rfl) rfl rfl ?_
      refine k_goto 8 eX12_toNext_60 (by decide) ?_
      have hng := nxt_ge hcd hdd2 j (by omega)
      have hnl := nxt_le V dd j
      first
      | (have e : nxt V dd (j + 1) = nxt V dd j := if_pos (by omega)
         refine k_loc (L2 := [_, _, .int (nI (tnG V dd (j + 1))), .int (b2i (nxt V dd (j + 1) ≠ 120)), .int (nI (j + 1))]) (by simp only [tnG, e] <;> rfl) ?_
         exact ih (j + 1) (by omega))
      | (have e : nxt V dd (j + 1) = nxt V dd j := by
           rw [nxt, if_neg (by omega)]
           have c9 := c_42
           rw [tnG, if_neg c_29] at c9
           omega
         refine k_loc (L2 := [_, _, .int (nI (tnG V dd (j + 1))), .int (b2i (nxt V dd (j + 1) ≠ 120)), .int (nI (j + 1))]) (by simp only [tnG, e] <;> rfl) ?_
         exact ih (j + 1) (by omega))
      | (have e : nxt V dd (j + 1) = cN V j := by
           rw [nxt, if_neg (by omega)]
           first
           | omega
           | (have c9 := c_42
              rw [tnG, if_neg c_29] at c9
              omega)
           | (have c8 : nxt V dd j = 120 := Decidable.not_not.mp c_29
              omega)
         refine k_loc (L2 := [_, _, .int (nI (tnG V dd (j + 1))), .int (b2i (nxt V dd (j + 1) ≠ 120)), .int (nI (j + 1))]) (by rw [tnG, e, if_neg (by omega), b2i_t (show cN V j ≠ 120 by omega)] <;> rfl) ?_
         exact ih (j + 1) (by omega))
    refine k_iload_n eX12_toNext_28 rfl ?_
    refine k_ifb_eq 45 eX12_toNext_29 (by decide) (fun c_29 => ?_) (fun c_29 => ?_)
    · refine k_aload_n eX12_toNext_45 rfl ?_
      refine GX12_41 eX12_toNext_46 rfl ?_
      refine k_iload eX12_toNext_49 rfl ?_
      refine k_ialdN (j := j) eX12_toNext_51 (ar62 _) (by omega) (Nat.le_of_ble_eq_true rfl) ?_
      refine k_topi (nI (cN V j)) (mcd hV hcd (by omega)) ?_
      refine k_iload_n eX12_toNext_52 rfl ?_
      refine k_isubN eX12_toNext_53 (by omega) ?_
      refine k_istore_n (L2 := [_, _, _, _, _]) eX12_toNext_54 (Nat.le_of_ble_eq_true rfl) rfl ?_
      refine k_iconst (v := nI 1) eX12_toNext_55 (by decide) ?_
      refine k_istore_n (L2 := [_, _, _, _, _]) eX12_toNext_56 (Nat.le_of_ble_eq_true rfl) rfl ?_
      refine k_iincN (g := 1) (a := j) (L2 := [_, _, _, _, _]) eX12_toNext_57 (Nat.le_of_ble_eq_true rfl) rfl rfl ?_
      refine k_goto 8 eX12_toNext_60 (by decide) ?_
      have hng := nxt_ge hcd hdd2 j (by omega)
      have hnl := nxt_le V dd j
      first
      | (have e : nxt V dd (j + 1) = nxt V dd j := if_pos (by omega)
         refine k_loc (L2 := [_, _, .int (nI (tnG V dd (j + 1))), .int (b2i (nxt V dd (j + 1) ≠ 120)), .int (nI (j + 1))]) (by simp only [tnG, e] <;> rfl) ?_
         exact ih (j + 1) (by omega))
      | (have e : nxt V dd (j + 1) = nxt V dd j := by
           rw [nxt, if_neg (by omega)]
           have c9 := c_42
           rw [tnG, if_neg c_29] at c9
           omega
         refine k_loc (L2 := [_, _, .int (nI (tnG V dd (j + 1))), .int (b2i (nxt V dd (j + 1) ≠ 120)), .int (nI (j + 1))]) (by simp only [tnG, e] <;> rfl) ?_
         exact ih (j + 1) (by omega))
      | (have e : nxt V dd (j + 1) = cN V j := by
           rw [nxt, if_neg (by omega)]
           first
           | omega
           | (have c9 := c_42
              rw [tnG, if_neg c_29] at c9
              omega)
           | (have c8 : nxt V dd j = 120 := Decidable.not_not.mp c_29
              omega)
         refine k_loc (L2 := [_, _, .int (nI (tnG V dd (j + 1))), .int (b2i (nxt V dd (j + 1) ≠ 120)), .int (nI (j + 1))]) (by rw [tnG, e, if_neg (by omega), b2i_t (show cN V j ≠ 120 by omega)] <;> rfl) ?_
         exact ih (j + 1) (by omega))
    refine k_aload_n eX12_toNext_32 rfl ?_
    refine GX12_41 eX12_toNext_33 rfl ?_
    refine k_iload eX12_toNext_36 rfl ?_
    refine k_ialdN (j := j) eX12_toNext_38 (ar62 _) (by omega) (Nat.le_of_ble_eq_true rfl) ?_
    refine k_topi (nI (cN V j)) (mcd hV hcd (by omega)) ?_
    refine k_iload_n eX12_toNext_39 rfl ?_
    refine k_isubN eX12_toNext_40 (by omega) ?_
    refine k_iload_n eX12_toNext_41 rfl ?_
    refine k_icmp_geN 57 eX12_toNext_42 (by decide) (by omega) (by omega) (fun c_42 => ?_) (fun c_42 => ?_)
    · refine k_iincN (g := 1) (a := j) (L2 := [_, _, _, _, _]) eX12_toNext_57 (Nat.le_of_ble_eq_true rfl) rfl rfl ?_
      refine k_goto 8 eX12_toNext_60 (by decide) ?_
      have hng := nxt_ge hcd hdd2 j (by omega)
      have hnl := nxt_le V dd j
      first
      | (have e : nxt V dd (j + 1) = nxt V dd j := if_pos (by omega)
         refine k_loc (L2 := [_, _, .int (nI (tnG V dd (j + 1))), .int (b2i (nxt V dd (j + 1) ≠ 120)), .int (nI (j + 1))]) (by simp only [tnG, e] <;> rfl) ?_
         exact ih (j + 1) (by omega))
      | (have e : nxt V dd (j + 1) = nxt V dd j := by
           rw [nxt, if_neg (by omega)]
           have c9 := c_42
           rw [tnG, if_neg c_29] at c9
           omega
         refine k_loc (L2 := [_, _, .int (nI (tnG V dd (j + 1))), .int (b2i (nxt V dd (j + 1) ≠ 120)), .int (nI (j + 1))]) (by simp only [tnG, e] <;> rfl) ?_
         exact ih (j + 1) (by omega))
      | (have e : nxt V dd (j + 1) = cN V j := by
           rw [nxt, if_neg (by omega)]
           first
           | omega
           | (have c9 := c_42
              rw [tnG, if_neg c_29] at c9
              omega)
           | (have c8 : nxt V dd j = 120 := Decidable.not_not.mp c_29
              omega)
         refine k_loc (L2 := [_, _, .int (nI (tnG V dd (j + 1))), .int (b2i (nxt V dd (j + 1) ≠ 120)), .int (nI (j + 1))]) (by rw [tnG, e, if_neg (by omega), b2i_t (show cN V j ≠ 120 by omega)] <;> rfl) ?_
         exact ih (j + 1) (by omega))
    refine k_aload_n eX12_toNext_45 rfl ?_
    refine GX12_41 eX12_toNext_46 rfl ?_
    refine k_iload eX12_toNext_49 rfl ?_
    refine k_ialdN (j := j) eX12_toNext_51 (ar62 _) (by omega) (Nat.le_of_ble_eq_true rfl) ?_
    refine k_topi (nI (cN V j)) (mcd hV hcd (by omega)) ?_
    refine k_iload_n eX12_toNext_52 rfl ?_
    refine k_isubN eX12_toNext_53 (by omega) ?_
    refine k_istore_n (L2 := [_, _, _, _, _]) eX12_toNext_54 (Nat.le_of_ble_eq_true rfl) rfl ?_
    refine k_iconst (v := nI 1) eX12_toNext_55 (by decide) ?_
    refine k_istore_n (L2 := [_, _, _, _, _]) eX12_toNext_56 (Nat.le_of_ble_eq_true rfl) rfl ?_
    refine k_iincN (g := 1) (a := j) (L2 := [_, _, _, _, _]) eX12_toNext_57 (Nat.le_of_ble_eq_true rfl) rfl rfl ?_
    refine k_goto 8 eX12_toNext_60 (by decide) ?_
    have hng := nxt_ge hcd hdd2 j (by omega)
    have hnl := nxt_le V dd j
    first
    | (have e : nxt V dd (j + 1) = nxt V dd j := if_pos (by omega)
       refine k_loc (L2 := [_, _, .int (nI (tnG V dd (j + 1))), .int (b2i (nxt V dd (j + 1) ≠ 120)), .int (nI (j + 1))]) (by simp only [tnG, e] <;> rfl) ?_
       exact ih (j + 1) (by omega))
    | (have e : nxt V dd (j + 1) = nxt V dd j := by
         rw [nxt, if_neg (by omega)]
         have c9 := c_42
         rw [tnG, if_neg c_29] at c9
         omega
       refine k_loc (L2 := [_, _, .int (nI (tnG V dd (j + 1))), .int (b2i (nxt V dd (j + 1) ≠ 120)), .int (nI (j + 1))]) (by simp only [tnG, e] <;> rfl) ?_
       exact ih (j + 1) (by omega))
    | (have e : nxt V dd (j + 1) = cN V j := by
         rw [nxt, if_neg (by omega)]
         first
         | omega
         | (have c9 := c_42
            rw [tnG, if_neg c_29] at c9
            omega)
         | (have c8 : nxt V dd j = 120 := Decidable.not_not.mp c_29
            omega)
       refine k_loc (L2 := [_, _, .int (nI (tnG V dd (j + 1))), .int (b2i (nxt V dd (j + 1) ≠ 120)), .int (nI (j + 1))]) (by rw [tnG, e, if_neg (by omega), b2i_t (show cN V j ≠ 120 by omega)] <;> rfl) ?_
       exact ih (j + 1) (by omega))
set_option maxHeartbeats 400000 in
theorem pX12_toNext {S : k_S} {V : k_V} (hV : vM S = V) {dn : Nat} (hdn : S.1 2611 = nI dn) (hcd : CntOk V dn) {dd : Nat} (hdd2 : dd < 120) : Sp 0 0 0 MX12_toNext [.ref 52, .int (nI dd)] (hp S) (Rt (some (.int (gNx V dn dd))) (hp S)) := by
  refine Sp_of (by decide +kernel) (Nat.le_of_ble_eq_true rfl) ?_
  show AW none MX12_toNext 0 0 0 0 [.ref 52, .int (nI dd), .null, .null, .null] [] (hp S) _
  refine k_bipush (v := nI 99) eX12_toNext_0 (by decide) ?_
  refine k_istore_n (L2 := [_, _, _, _, _]) eX12_toNext_2 (Nat.le_of_ble_eq_true rfl) rfl ?_
  refine k_iconst (v := nI 0) eX12_toNext_3 (by decide) ?_
  refine k_istore_n (L2 := [_, _, _, _, _]) eX12_toNext_4 (Nat.le_of_ble_eq_true rfl) rfl ?_
  refine k_iconst (v := nI 0) eX12_toNext_5 (by decide) ?_
  refine k_istore (L2 := [_, _, _, _, _]) eX12_toNext_6 (Nat.le_of_ble_eq_true rfl) rfl ?_
  refine k_loc (L2 := [_, _, .int (nI (tnG V dd 0)), .int (b2i (nxt V dd 0 ≠ 120)), _]) (by rw [b2i_f (fun q : nxt V dd 0 ≠ 120 => q rfl)] <;> rfl) ?_
  refine lX12_toNext (by decide) hV hdn hcd hdd2 ?_ dn 0 (by omega)
  refine k_iload_n eX12_toNext_63 rfl ?_
  refine k_ireturn eX12_toNext_64 rfl rfl ?_
  exact ⟨by rw [← tnG_gNx hcd hdd2], rfl⟩
set_option maxHeartbeats 400000 in
theorem lX12_aboveMeanA {d : Nat} {Po : Option Value → k_H → Prop} (hdd : 0 ≤ d) {S : k_S} {V : k_V} (hV : vM S = V) (hpl : PlanOk V) {dd : Nat} (hdd2 : dd < 120) (hc : 7 ≤ dd) (kx : AW none MX12_aboveMean d 0 0 46 [.ref 52, .int (nI dd), .int (nI 7), .int (sumN (fun i => V 0 (pw V (dd - (1 + i)))) 7), .int (nI 8)] [] (hp S) Po) : ∀ (n j : Nat), j + n = 7 → AW none MX12_aboveMean d 0 0 7 [.ref 52, .int (nI dd), .int (nI j), .int (sumN (fun i => V 0 (pw V (dd - (1 + i)))) j), .int (nI (1 + j))] [] (hp S) Po := by
  intro n
  induction n with
  | zero =>
    intro j hj
    rw [show j = 7 by omega]
    refine k_iload eX12_aboveMean_7 rfl ?_
    refine k_bipush (v := nI 7) eX12_aboveMean_9 (by decide) ?_
    refine k_icmp_gtN 46 eX12_aboveMean_11 (by decide) (by omega) (by omega) (fun c_11 => ?_) (fun c_11 => by exfalso; omega)
    exact kx
  | succ n ih =>
    intro j hj
    have hpw := hpl.lt (d := dd - (1 + j)) (by omega)
    refine k_iload eX12_aboveMean_7 rfl ?_
    refine k_bipush (v := nI 7) eX12_aboveMean_9 (by decide) ?_
    refine k_icmp_gtN 46 eX12_aboveMean_11 (by decide) (by omega) (by omega) (fun c_11 => by exfalso; omega) (fun c_11 => ?_)
    refine k_iload eX12_aboveMean_14 rfl ?_
    refine k_iload_n eX12_aboveMean_16 rfl ?_
    refine k_icmp_gtN 46 eX12_aboveMean_17 (by decide) (by omega) (by omega) (fun c_17 => by exfalso; omega) (fun c_17 => ?_)
    refine k_iload_n eX12_aboveMean_20 rfl ?_
    refine k_aload_n eX12_aboveMean_21 rfl ?_
    refine GX12_13 eX12_aboveMean_22 rfl ?_
    refine k_aload_n eX12_aboveMean_25 rfl ?_
    refine GX12_38 eX12_aboveMean_26 rfl ?_
    refine k_iload_n eX12_aboveMean_29 rfl ?_
    refine k_iload eX12_aboveMean_30 rfl ?_
    refine k_isubN eX12_aboveMean_32 (by omega) ?_
    refine k_ialdN (j := (dd - (1 + j))) eX12_aboveMean_33 (ar61 _) (by omega) (Nat.le_of_ble_eq_true rfl) ?_
    refine k_topi (nI (pw V (dd - (1 + j)))) (mpl hV hpl (by omega)) ?_
    refine k_ialdN (j := (pw V (dd - (1 + j)))) eX12_aboveMean_34 (ar53 _) (by omega) (Nat.le_of_ble_eq_true rfl) ?_
    refine k_topi ((V 0 (pw V (dd - (1 + j))))) (congrFun (congrFun hV 0) _) ?_
    refine k_iadd eX12_aboveMean_35 ?_
    refine k_istore_n (L2 := [_, _, _, _, _]) eX12_aboveMean_36 (Nat.le_of_ble_eq_true rfl) rfl ?_
    refine k_iincN (g := 1) (a := j) (L2 := [_, _, _, _, _]) eX12_aboveMean_37 (Nat.le_of_ble_eq_true rfl) rfl rfl ?_
    refine k_iincN (g := 1) (a := (1 + j)) (L2 := [_, _, _, _, _]) eX12_aboveMean_40 (Nat.le_of_ble_eq_true rfl) rfl rfl ?_
    refine k_goto 7 eX12_aboveMean_43 (by decide) ?_
    have q := ih (j + 1) (by omega)
    rw [sumN_s] at q
    exact q
set_option maxHeartbeats 400000 in
theorem lX12_aboveMeanB {d : Nat} {Po : Option Value → k_H → Prop} (hdd : 0 ≤ d) {S : k_S} {V : k_V} (hV : vM S = V) (hpl : PlanOk V) {dd : Nat} (hdd2 : dd < 120) (hc : ¬ 7 ≤ dd) (kx : AW none MX12_aboveMean d 0 0 46 [.ref 52, .int (nI dd), .int (nI dd), .int (sumN (fun i => V 0 (pw V (dd - (1 + i)))) dd), .int (nI (1 + dd))] [] (hp S) Po) : ∀ (n j : Nat), j + n = dd → AW none MX12_aboveMean d 0 0 7 [.ref 52, .int (nI dd), .int (nI j), .int (sumN (fun i => V 0 (pw V (dd - (1 + i)))) j), .int (nI (1 + j))] [] (hp S) Po := by
  intro n
  induction n with
  | zero =>
    intro j hj
    rw [show j = dd by omega]
    refine k_iload eX12_aboveMean_7 rfl ?_
    refine k_bipush (v := nI 7) eX12_aboveMean_9 (by decide) ?_
    refine k_icmp_gtN 46 eX12_aboveMean_11 (by decide) (by omega) (by omega) (fun c_11 => by exfalso; omega) (fun c_11 => ?_)
    refine k_iload eX12_aboveMean_14 rfl ?_
    refine k_iload_n eX12_aboveMean_16 rfl ?_
    refine k_icmp_gtN 46 eX12_aboveMean_17 (by decide) (by omega) (by omega) (fun c_17 => ?_) (fun c_17 => by exfalso; omega)
    exact kx
  | succ n ih =>
    intro j hj
    have hpw := hpl.lt (d := dd - (1 + j)) (by omega)
    refine k_iload eX12_aboveMean_7 rfl ?_
    refine k_bipush (v := nI 7) eX12_aboveMean_9 (by decide) ?_
    refine k_icmp_gtN 46 eX12_aboveMean_11 (by decide) (by omega) (by omega) (fun c_11 => by exfalso; omega) (fun c_11 => ?_)
    refine k_iload eX12_aboveMean_14 rfl ?_
    refine k_iload_n eX12_aboveMean_16 rfl ?_
    refine k_icmp_gtN 46 eX12_aboveMean_17 (by decide) (by omega) (by omega) (fun c_17 => by exfalso; omega) (fun c_17 => ?_)
    refine k_iload_n eX12_aboveMean_20 rfl ?_
    refine k_aload_n eX12_aboveMean_21 rfl ?_
    refine GX12_13 eX12_aboveMean_22 rfl ?_
    refine k_aload_n eX12_aboveMean_25 rfl ?_
    refine GX12_38 eX12_aboveMean_26 rfl ?_
    refine k_iload_n eX12_aboveMean_29 rfl ?_
    refine k_iload eX12_aboveMean_30 rfl ?_
    refine k_isubN eX12_aboveMean_32 (by omega) ?_
    refine k_ialdN (j := (dd - (1 + j))) eX12_aboveMean_33 (ar61 _) (by omega) (Nat.le_of_ble_eq_true rfl) ?_
    refine k_topi (nI (pw V (dd - (1 + j)))) (mpl hV hpl (by omega)) ?_
    refine k_ialdN (j := (pw V (dd - (1 + j)))) eX12_aboveMean_34 (ar53 _) (by omega) (Nat.le_of_ble_eq_true rfl) ?_
    refine k_topi ((V 0 (pw V (dd - (1 + j))))) (congrFun (congrFun hV 0) _) ?_
    refine k_iadd eX12_aboveMean_35 ?_
    refine k_istore_n (L2 := [_, _, _, _, _]) eX12_aboveMean_36 (Nat.le_of_ble_eq_true rfl) rfl ?_
    refine k_iincN (g := 1) (a := j) (L2 := [_, _, _, _, _]) eX12_aboveMean_37 (Nat.le_of_ble_eq_true rfl) rfl rfl ?_
    refine k_iincN (g := 1) (a := (1 + j)) (L2 := [_, _, _, _, _]) eX12_aboveMean_40 (Nat.le_of_ble_eq_true rfl) rfl rfl ?_
    refine k_goto 7 eX12_aboveMean_43 (by decide) ?_
    have q := ih (j + 1) (by omega)
    rw [sumN_s] at q
    exact q
theorem mX12_above {d : Nat} {Po : Option Value → k_H → Prop} (hdd : 0 ≤ d) {S : k_S} {V : k_V} (hV : vM S = V) (hpl : PlanOk V) {dd : Nat} (hdd2 : dd < 120) (kx : AW none MX12_aboveMean d 0 0 46 [.ref 52, .int (nI dd), .int (nI ((min dd 7))), .int (sumN (fun i => V 0 (pw V (dd - (1 + i)))) ((min dd 7))), .int (nI (1 + ((min dd 7))))] [] (hp S) Po) : AW none MX12_aboveMean d 0 0 7 [.ref 52, .int (nI dd), .int (nI 0), .int (sumN (fun i => V 0 (pw V (dd - (1 + i)))) 0), .int (nI 1)] [] (hp S) Po := by
  by_cases hc : 7 ≤ dd
  · exact lX12_aboveMeanA hdd hV hpl hdd2 hc (by rw [show min dd 7 = 7 by omega] at kx; exact kx) 7 0 (by omega)
  · exact lX12_aboveMeanB hdd hV hpl hdd2 hc (by rw [show min dd 7 = dd by omega] at kx; exact kx) dd 0 (by omega)
theorem jmp_rev (V : k_V) {d : Nat} (h : 0 < d) : V 0 (pw V d) - sumN (fun i => V 0 (pw V (d - (1 + i)))) (min d 7) / nI (min d 7) = jmp V d := by
  rw [jmp, if_neg (by omega), ← sumN_rev (fun j => V 0 (pw V (d - min d 7 + j)))]
  congr 2
  exact sumN_congr _ (fun i hi => by rw [show d - (1 + i) = d - min d 7 + (min d 7 - 1 - i) by omega])
set_option maxHeartbeats 400000 in
theorem pX12_aboveMean {S : k_S} {V : k_V} (hV : vM S = V) (hpl : PlanOk V) {dd : Nat} (hdd2 : dd < 120) : Sp 0 0 0 MX12_aboveMean [.ref 52, .int (nI dd)] (hp S) (Rt (some (.int (jmp V dd))) (hp S)) := by
  refine Sp_of (by decide +kernel) (Nat.le_of_ble_eq_true rfl) ?_
  show AW none MX12_aboveMean 0 0 0 0 [.ref 52, .int (nI dd), .null, .null, .null] [] (hp S) _
  refine k_iconst (v := nI 0) eX12_aboveMean_0 (by decide) ?_
  refine k_istore_n (L2 := [_, _, _, _, _]) eX12_aboveMean_1 (Nat.le_of_ble_eq_true rfl) rfl ?_
  refine k_iconst (v := nI 0) eX12_aboveMean_2 (by decide) ?_
  refine k_istore_n (L2 := [_, _, _, _, _]) eX12_aboveMean_3 (Nat.le_of_ble_eq_true rfl) rfl ?_
  refine k_iconst (v := nI 1) eX12_aboveMean_4 (by decide) ?_
  refine k_istore (L2 := [_, _, _, _, _]) eX12_aboveMean_5 (Nat.le_of_ble_eq_true rfl) rfl ?_
  refine k_loc (L2 := [_, _, .int (nI 0), _, .int (nI (1 + 0))]) rfl ?_
  refine mX12_above (by decide) hV hpl hdd2 ?_
  have hpw := hpl.lt hdd2
  refine k_iload_n eX12_aboveMean_46 rfl ?_
  refine k_if_neN 54 eX12_aboveMean_47 (by decide) (by omega) (fun c_47 => ?_) (fun c_47 => ?_)
  · refine k_aload_n eX12_aboveMean_54 rfl ?_
    refine GX12_13 eX12_aboveMean_55 rfl ?_
    refine k_aload_n eX12_aboveMean_58 rfl ?_
    refine GX12_38 eX12_aboveMean_59 rfl ?_
    refine k_iload_n eX12_aboveMean_62 rfl ?_
    refine k_ialdN (j := dd) eX12_aboveMean_63 (ar61 _) (by omega) (Nat.le_of_ble_eq_true rfl) ?_
    refine k_topi (nI (pw V dd)) (mpl hV hpl (by omega)) ?_
    refine k_ialdN (j := (pw V dd)) eX12_aboveMean_64 (ar53 _) (by omega) (Nat.le_of_ble_eq_true rfl) ?_
    refine k_topi ((V 0 (pw V dd))) (congrFun (congrFun hV 0) _) ?_
    refine k_iload_n eX12_aboveMean_65 rfl ?_
    refine k_iload_n eX12_aboveMean_66 rfl ?_
    refine k_idiv eX12_aboveMean_67 (nI_ne0 (by omega) (by omega)) ?_
    refine k_isub eX12_aboveMean_68 ?_
    refine k_ireturn eX12_aboveMean_69 rfl rfl ?_
    exact ⟨by rw [jmp_rev V (by omega)], rfl⟩
  refine k_iconst (v := nI 0) eX12_aboveMean_50 (by decide) ?_
  refine k_goto 69 eX12_aboveMean_51 (by decide) ?_
  refine k_ireturn eX12_aboveMean_69 rfl rfl ?_
  exact ⟨by rw [jmp, if_pos (by omega)], rfl⟩
def n81 (S : k_S) (k : Nat) (x : Int32) : k_S := sa S 81 (va_up (S.2.1 81) k x)
theorem TxM.fr {I A J : List Nat} {S U : k_S} {q : Nat} {T : List Int32} (h : TxM S q T) (f : Frm I A J S U) (h1 : 65 ∉ A) (h2 : 66 ∉ A) : TxM U q T := by
  obtain ⟨a1, a2, a3, a4, a5⟩ := h
  exact ⟨(congrFun (f.2.1 66 h2) q).trans a1, a2, by rw [f.2.1 65 h1]; exact a3, a4, a5⟩
def frA (I A J : List Nat) : List Nat × List Nat × List Nat := (I, A, J)
theorem nm8 (f nm : Nat → Int32) (h : ∀ k, k < 7 → f k = nm k) (T : List Int32) : gv f T false [] = gv nm T false [] := gv_congr h T false []
set_option maxHeartbeats 400000 in
theorem pX12_asksOf {S : k_S} {V : k_V} (hV : vM S = V) {dn : Nat} (hdn : S.1 2611 = nI dn) (hcd : CntOk V dn) (hpl : PlanOk V) {q r dd : Nat} (hq : q < 3) (hr : r < 5) (hdd2 : dd < 120) {T : List Int32} (hT : TxM S q T) : Sp 3 0 0 MX12_asksOf [.ref 52, .int (nI q), .int (nI r), .int (nI dd)] (hp S) (Rx (some (.int (gv (nmV V dn r dd) T false []))) (fun S' => Frm [] [81, 82] [] S S')) := by
  refine Sp_of (by decide +kernel) (Nat.le_of_ble_eq_true rfl) ?_
  show AW none MX12_asksOf 3 0 0 0 [.ref 52, .int (nI q), .int (nI r), .int (nI dd)] [] (hp S) _
  refine k_aload_n eX12_asksOf_0 rfl ?_
  refine GX12_102 eX12_asksOf_1 rfl ?_
  refine k_iconst (v := nI 0) eX12_asksOf_4 (by decide) ?_
  refine k_aload_n eX12_asksOf_5 rfl ?_
  refine k_iload_n eX12_asksOf_6 rfl ?_
  refine k_iload_n eX12_asksOf_7 rfl ?_
  refine k_iconst (v := nI 2) eX12_asksOf_8 (by decide) ?_
  refine k_iconst (v := nI 0) eX12_asksOf_9 (by decide) ?_
  refine cV1 (M' := MX12_sumOf) eX12_asksOf_10 mX12_178 wX12_sumOf vX12_sumOf ⟨_, _, _, rfl, rfl, rfl⟩ rfl (pX12_sumOf (S := S) (V := V) (r := r) (dd := dd) (q := 2) (g := 0) hV hpl hr hdd2 (by omega) (by omega)) (by decide) (Nat.le_of_ble_eq_true rfl) ?_
  refine k_sipush (v := nI 1000) eX12_asksOf_13 (by decide) ?_
  refine k_idiv eX12_asksOf_16 (by decide) ?_
  refine k_iastN (j := 0) eX12_asksOf_17 (ar81 _) (by omega) (Nat.le_of_ble_eq_true rfl) (as81 _ _) ?_
  obtain ⟨T0, e0⟩ : ∃ T0, sa S 81 (va_up (S.2.1 81) 0 (smV V r dd 2 0 / nI 1000)) = T0 := ⟨_, rfl⟩
  have v0 : vM T0 = V := by rw [← e0]; exact hV
  have d0 : T0.1 2611 = nI dn := by rw [← e0]; exact hdn
  have f0 : Frm [] [81, 82] [] S T0 := by rw [← e0]; exact ((Frm.rf S)).sa (by decide) _
  refine k_heap (h2 := hp T0) (congrArg hp e0) ?_
  refine k_aload_n eX12_asksOf_18 rfl ?_
  refine GX12_102 eX12_asksOf_19 rfl ?_
  refine k_iconst (v := nI 1) eX12_asksOf_22 (by decide) ?_
  refine k_aload_n eX12_asksOf_23 rfl ?_
  refine k_iload_n eX12_asksOf_24 rfl ?_
  refine k_iload_n eX12_asksOf_25 rfl ?_
  refine k_iconst (v := nI 1) eX12_asksOf_26 (by decide) ?_
  refine k_iconst (v := nI 0) eX12_asksOf_27 (by decide) ?_
  refine cV1 (M' := MX12_sumOf) eX12_asksOf_28 mX12_178 wX12_sumOf vX12_sumOf ⟨_, _, _, rfl, rfl, rfl⟩ rfl (pX12_sumOf (S := T0) (V := V) (r := r) (dd := dd) (q := 1) (g := 0) v0 hpl hr hdd2 (by omega) (by omega)) (by decide) (Nat.le_of_ble_eq_true rfl) ?_
  refine k_sipush (v := nI 1000) eX12_asksOf_31 (by decide) ?_
  refine k_idiv eX12_asksOf_34 (by decide) ?_
  refine k_iastN (j := 1) eX12_asksOf_35 (ar81 _) (by omega) (Nat.le_of_ble_eq_true rfl) (as81 _ _) ?_
  obtain ⟨T1, e1⟩ : ∃ T1, sa T0 81 (va_up (T0.2.1 81) 1 (smV V r dd 1 0 / nI 1000)) = T1 := ⟨_, rfl⟩
  have v1 : vM T1 = V := by rw [← e1]; exact v0
  have d1 : T1.1 2611 = nI dn := by rw [← e1]; exact d0
  have f1 : Frm [] [81, 82] [] S T1 := by rw [← e1]; exact (f0).sa (by decide) _
  refine k_heap (h2 := hp T1) (congrArg hp e1) ?_
  refine k_aload_n eX12_asksOf_36 rfl ?_
  refine GX12_102 eX12_asksOf_37 rfl ?_
  refine k_iconst (v := nI 2) eX12_asksOf_40 (by decide) ?_
  refine k_aload_n eX12_asksOf_41 rfl ?_
  refine GX12_38 eX12_asksOf_42 rfl ?_
  refine k_iload_n eX12_asksOf_45 rfl ?_
  refine k_ialdN (j := dd) eX12_asksOf_46 (ar61 _) (by omega) (Nat.le_of_ble_eq_true rfl) ?_
  refine k_topi (nI (pw V dd)) (mpl v1 hpl hdd2) ?_
  refine k_iastN (j := 2) eX12_asksOf_47 (ar81 _) (by omega) (Nat.le_of_ble_eq_true rfl) (as81 _ _) ?_
  refine k_aload_n eX12_asksOf_48 rfl ?_
  obtain ⟨T2, e2⟩ : ∃ T2, sa T1 81 (va_up (T1.2.1 81) 2 (nI (pw V dd))) = T2 := ⟨_, rfl⟩
  have v2 : vM T2 = V := by rw [← e2]; exact v1
  have d2 : T2.1 2611 = nI dn := by rw [← e2]; exact d1
  have f2 : Frm [] [81, 82] [] S T2 := by rw [← e2]; exact (f1).sa (by decide) _
  refine k_heap (h2 := hp T2) (congrArg hp e2) ?_
  refine GX12_102 eX12_asksOf_49 rfl ?_
  refine k_iconst (v := nI 3) eX12_asksOf_52 (by decide) ?_
  refine k_aload_n eX12_asksOf_53 rfl ?_
  refine k_iload_n eX12_asksOf_54 rfl ?_
  refine cV1 (M' := MX12_aboveMean) eX12_asksOf_55 mX12_263 wX12_aboveMean vX12_aboveMean ⟨_, _, _, rfl, rfl, rfl⟩ rfl (pX12_aboveMean (S := T2) (V := V) (dd := dd) v2 hpl hdd2) (by decide) (Nat.le_of_ble_eq_true rfl) ?_
  refine k_iastN (j := 3) eX12_asksOf_58 (ar81 _) (by omega) (Nat.le_of_ble_eq_true rfl) (as81 _ _) ?_
  obtain ⟨T3, e3⟩ : ∃ T3, sa T2 81 (va_up (T2.2.1 81) 3 (jmp V dd)) = T3 := ⟨_, rfl⟩
  have v3 : vM T3 = V := by rw [← e3]; exact v2
  have d3 : T3.1 2611 = nI dn := by rw [← e3]; exact d2
  have f3 : Frm [] [81, 82] [] S T3 := by rw [← e3]; exact (f2).sa (by decide) _
  refine k_heap (h2 := hp T3) (congrArg hp e3) ?_
  refine k_aload_n eX12_asksOf_59 rfl ?_
  refine GX12_102 eX12_asksOf_60 rfl ?_
  refine k_iconst (v := nI 4) eX12_asksOf_63 (by decide) ?_
  refine k_iload_n eX12_asksOf_64 rfl ?_
  refine k_iastN (j := 4) eX12_asksOf_65 (ar81 _) (by omega) (Nat.le_of_ble_eq_true rfl) (as81 _ _) ?_
  obtain ⟨T4, e4⟩ : ∃ T4, sa T3 81 (va_up (T3.2.1 81) 4 (nI dd)) = T4 := ⟨_, rfl⟩
  have v4 : vM T4 = V := by rw [← e4]; exact v3
  have d4 : T4.1 2611 = nI dn := by rw [← e4]; exact d3
  have f4 : Frm [] [81, 82] [] S T4 := by rw [← e4]; exact (f3).sa (by decide) _
  refine k_heap (h2 := hp T4) (congrArg hp e4) ?_
  refine k_aload_n eX12_asksOf_66 rfl ?_
  refine GX12_102 eX12_asksOf_67 rfl ?_
  refine k_iconst (v := nI 5) eX12_asksOf_70 (by decide) ?_
  refine k_aload_n eX12_asksOf_71 rfl ?_
  refine GX12_20 eX12_asksOf_72 rfl ?_
  refine k_aload_n eX12_asksOf_75 rfl ?_
  refine GX12_38 eX12_asksOf_76 rfl ?_
  refine k_iload_n eX12_asksOf_79 rfl ?_
  refine k_ialdN (j := dd) eX12_asksOf_80 (ar61 _) (by omega) (Nat.le_of_ble_eq_true rfl) ?_
  refine k_topi (nI (pw V dd)) (mpl v4 hpl hdd2) ?_
  refine k_ialdN (j := (pw V dd)) eX12_asksOf_81 (ar55 _) (by have := hpl.lt hdd2; omega) (Nat.le_of_ble_eq_true rfl) ?_
  refine k_topi ((V 2 (pw V dd))) (congrFun (congrFun v4 2) _) ?_
  refine k_iastN (j := 5) eX12_asksOf_82 (ar81 _) (by omega) (Nat.le_of_ble_eq_true rfl) (as81 _ _) ?_
  obtain ⟨T5, e5⟩ : ∃ T5, sa T4 81 (va_up (T4.2.1 81) 5 (V 2 (pw V dd))) = T5 := ⟨_, rfl⟩
  have v5 : vM T5 = V := by rw [← e5]; exact v4
  have d5 : T5.1 2611 = nI dn := by rw [← e5]; exact d4
  have f5 : Frm [] [81, 82] [] S T5 := by rw [← e5]; exact (f4).sa (by decide) _
  refine k_heap (h2 := hp T5) (congrArg hp e5) ?_
  refine k_aload_n eX12_asksOf_83 rfl ?_
  refine GX12_102 eX12_asksOf_84 rfl ?_
  refine k_bipush (v := nI 6) eX12_asksOf_87 (by decide) ?_
  refine k_aload_n eX12_asksOf_89 rfl ?_
  refine k_iload_n eX12_asksOf_90 rfl ?_
  refine cV1 (M' := MX12_toNext) eX12_asksOf_91 mX12_266 wX12_toNext vX12_toNext ⟨_, _, _, rfl, rfl, rfl⟩ rfl (pX12_toNext (S := T5) (V := V) (dn := dn) (dd := dd) v5 d5 hcd hdd2) (by decide) (Nat.le_of_ble_eq_true rfl) ?_
  refine k_iastN (j := 6) eX12_asksOf_94 (ar81 _) (by omega) (Nat.le_of_ble_eq_true rfl) (as81 _ _) ?_
  obtain ⟨T6, e6⟩ : ∃ T6, sa T5 81 (va_up (T5.2.1 81) 6 (gNx V dn dd)) = T6 := ⟨_, rfl⟩
  have v6 : vM T6 = V := by rw [← e6]; exact v5
  have d6 : T6.1 2611 = nI dn := by rw [← e6]; exact d5
  have f6 : Frm [] [81, 82] [] S T6 := by rw [← e6]; exact (f5).sa (by decide) _
  refine k_heap (h2 := hp T6) (congrArg hp e6) ?_
  refine k_aload_n eX12_asksOf_95 rfl ?_
  refine GX12_102 eX12_asksOf_96 rfl ?_
  refine k_bipush (v := nI 7) eX12_asksOf_99 (by decide) ?_
  refine k_iconst (v := nI 0) eX12_asksOf_101 (by decide) ?_
  refine k_iastN (j := 7) eX12_asksOf_102 (ar81 _) (by omega) (Nat.le_of_ble_eq_true rfl) (as81 _ _) ?_
  obtain ⟨T7, e7⟩ : ∃ T7, sa T6 81 (va_up (T6.2.1 81) 7 (nI 0)) = T7 := ⟨_, rfl⟩
  have v7 : vM T7 = V := by rw [← e7]; exact v6
  have d7 : T7.1 2611 = nI dn := by rw [← e7]; exact d6
  have f7 : Frm [] [81, 82] [] S T7 := by rw [← e7]; exact (f6).sa (by decide) _
  refine k_heap (h2 := hp T7) (congrArg hp e7) ?_
  refine k_aload_n eX12_asksOf_103 rfl ?_
  refine k_iload_n eX12_asksOf_104 rfl ?_
  have h81 : ∀ k, k < 7 → T7.2.1 81 k = nmV V dn r dd k := by
    intro k hk
    rw [← e7, ← e6, ← e5, ← e4, ← e3, ← e2, ← e1, ← e0]
    rcases (by omega : k = 0 ∨ k = 1 ∨ k = 2 ∨ k = 3 ∨ k = 4 ∨ k = 5 ∨ k = 6) with rfl | rfl | rfl | rfl | rfl | rfl | rfl <;> rfl
  refine cVX1 (M' := MX12_says) eX12_asksOf_105 mX12_269 wX12_says vX12_says ⟨_, _, _, rfl, rfl, rfl⟩ rfl (pX12_says (S := T7) (q := q) hq (hT.fr f7 (by decide) (by decide))) (by decide) (Nat.le_of_ble_eq_true rfl) ?_
  intro U fu
  refine k_ireturn eX12_asksOf_108 rfl rfl ?_
  exact ⟨by rw [nm8 _ _ h81], U, rfl, f7.tr (fu.wk (by decide) (by decide) (by decide))⟩
