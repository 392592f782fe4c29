set_option maxHeartbeats 400000 in
theorem lX12_led {d : Nat} {Po : Option Value → k_H → Prop} (hdd : 2 ≤ d) {S : k_S} {V : k_V} (hV : vM S = V) (hpl : PlanOk V) {z : Nat} (hz31 : z < 2 ^ 31) (hzr : z / 1000 < 5) (hzd : z % 1000 < 120) (kx : AW none MX12_led d 0 0 72 [.ref 52, .int (nI z), .int ((ld V (z / 1000) (z % 1000) ((z % 1000 + 1))).1), .int ((ld V (z / 1000) (z % 1000) ((z % 1000 + 1))).2), .int (nI ((z % 1000 + 1))), .null] [] (hp S) Po) : ∀ (n j : Nat), j + n = (z % 1000 + 1) → AW none MX12_led d 0 0 18 [.ref 52, .int (nI z), .int ((ld V (z / 1000) (z % 1000) j).1), .int ((ld V (z / 1000) (z % 1000) j).2), .int (nI j), .null] [] (hp S) Po := by
  intro n
  induction n with
  | zero =>
    intro j hj
    rw [show j = (z % 1000 + 1) by omega]
    refine k_iload eX12_led_18 rfl ?_
    refine k_iload_n eX12_led_20 rfl ?_
    refine k_sipush (v := nI 1000) eX12_led_21 (by decide) ?_
    refine k_iremN eX12_led_24 (by omega) (by omega) (by omega) ?_
    refine k_icmp_gtN 72 eX12_led_25 (by decide) (by omega) (by omega) (fun c_25 => ?_) (fun c_25 => by exfalso; omega)
    exact kx
  | succ n ih =>
    intro j hj
    refine k_iload eX12_led_18 rfl ?_
    refine k_iload_n eX12_led_20 rfl ?_
    refine k_sipush (v := nI 1000) eX12_led_21 (by decide) ?_
    refine k_iremN eX12_led_24 (by omega) (by omega) (by omega) ?_
    refine k_icmp_gtN 72 eX12_led_25 (by decide) (by omega) (by omega) (fun c_25 => by exfalso; omega) (fun c_25 => ?_)
    have hpw := hpl.lt (d := j) (by omega)
    refine k_aload_n eX12_led_28 rfl ?_
    refine k_iload_n eX12_led_29 rfl ?_
    refine k_sipush (v := nI 1000) eX12_led_30 (by decide) ?_
    refine k_idivN eX12_led_33 (by omega) (by omega) (by omega) ?_
    refine k_aload_n eX12_led_34 rfl ?_
    refine GX12_38 eX12_led_35 rfl ?_
    refine k_iload eX12_led_38 rfl ?_
    refine k_ialdN (j := j) eX12_led_40 (ar61 _) (by omega) (Nat.le_of_ble_eq_true rfl) ?_
    refine k_topi (nI (pw V j)) (mpl hV hpl (by omega)) ?_
    refine k_iload_n eX12_led_41 rfl ?_
    refine k_sipush (v := nI 1000) eX12_led_42 (by decide) ?_
    refine k_iremN eX12_led_45 (by omega) (by omega) (by omega) ?_
    refine k_iload eX12_led_46 rfl ?_
    refine k_isubN eX12_led_48 (by omega) ?_
    refine cV1 (M' := MX12_pointsOf) eX12_led_49 mX12_172 wX12_pointsOf vX12_pointsOf ⟨_, _, _, rfl, rfl, rfl⟩ rfl (pX12_pointsOf (S := S) (V := V) (r := (z / 1000)) (w := (pw V j)) (k := ((z % 1000) - j)) hV (by omega) (by omega) (by omega)) (by omega) (Nat.le_of_ble_eq_true rfl) ?_
    refine k_istore (L2 := [_, _, _, _, _, _]) eX12_led_52 (Nat.le_of_ble_eq_true rfl) rfl ?_
    refine k_iload eX12_led_54 rfl ?_
    refine k_iload_n eX12_led_56 rfl ?_
    refine k_icmp_le 66 eX12_led_57 (by decide) (fun c_57 => ?_) (fun c_57 => ?_)
    · refine k_iincN (g := 1) (a := j) (L2 := [_, _, _, _, _, _]) eX12_led_66 (Nat.le_of_ble_eq_true rfl) rfl rfl ?_
      refine k_goto 18 eX12_led_69 (by decide) ?_
      refine k_forget 5 (L2 := [_, _, _, _, _, _]) rfl ?_
      have q := ih (j + 1) (by omega)
      rw [ld] at q
      first | (rw [if_neg (Int32.not_lt.mpr c_57)] at q; exact q) | (rw [if_pos (Int32.not_le.mp c_57)] at q; exact q)
    refine k_iload eX12_led_60 rfl ?_
    refine k_istore_n (L2 := [_, _, _, _, _, _]) eX12_led_62 (Nat.le_of_ble_eq_true rfl) rfl ?_
    refine k_iload eX12_led_63 rfl ?_
    refine k_istore_n (L2 := [_, _, _, _, _, _]) eX12_led_65 (Nat.le_of_ble_eq_true rfl) rfl ?_
    refine k_iincN (g := 1) (a := j) (L2 := [_, _, _, _, _, _]) eX12_led_66 (Nat.le_of_ble_eq_true rfl) rfl rfl ?_
    refine k_goto 18 eX12_led_69 (by decide) ?_
    refine k_forget 5 (L2 := [_, _, _, _, _, _]) rfl ?_
    have q := ih (j + 1) (by omega)
    rw [ld] at q
    first | (rw [if_neg (Int32.not_lt.mpr c_57)] at q; exact q) | (rw [if_pos (Int32.not_le.mp c_57)] at q; exact q)
set_option maxHeartbeats 400000 in
theorem pX12_led {S : k_S} {V : k_V} (hV : vM S = V) (hpl : PlanOk V) {rn : Nat} (hrn : S.1 2604 = nI rn) (hrn5 : rn ≤ 5) (x : Int32) : Sp 3 0 0 MX12_led [.ref 52, .int (x)] (hp S) (Rt (some (.int (aLed V (S.1 2604) x))) (hp S)) := by
  refine Sp_of (by decide +kernel) (Nat.le_of_ble_eq_true rfl) ?_
  show AW none MX12_led 3 0 0 0 [.ref 52, .int (x), .null, .null, .null, .null] [] (hp S) _
  refine k_aload_n eX12_led_0 rfl ?_
  refine k_iload_n eX12_led_1 rfl ?_
  refine cV1 (M' := MX12_isBoth) eX12_led_2 mX12_175 wX12_isBoth vX12_isBoth ⟨_, _, _, rfl, rfl, rfl⟩ rfl (pX12_isBoth (S := S) (rn := rn) hrn hrn5 (x)) (by decide) (Nat.le_of_ble_eq_true rfl) ?_
  refine k_ifb_ne 10 eX12_led_5 (by decide) (fun c_5 => ?_) (fun c_5 => ?_)
  · obtain ⟨z, hz31, rfl, hzr, hzd⟩ := pRD_ex c_5 hrn hrn5
    refine k_bipush (v := (-2)) eX12_led_10 (by decide) ?_
    refine k_istore_n (L2 := [_, _, _, _, _, _]) eX12_led_12 (Nat.le_of_ble_eq_true rfl) rfl ?_
    refine k_iconst (v := nI 0) eX12_led_13 (by decide) ?_
    refine k_istore_n (L2 := [_, _, _, _, _, _]) eX12_led_14 (Nat.le_of_ble_eq_true rfl) rfl ?_
    refine k_iconst (v := nI 0) eX12_led_15 (by decide) ?_
    refine k_istore (L2 := [_, _, _, _, _, _]) eX12_led_16 (Nat.le_of_ble_eq_true rfl) rfl ?_
    refine lX12_led (by decide) hV hpl hz31 (by omega) hzd ?_ ((z % 1000 + 1)) 0 (by omega)
    refine k_iload_n eX12_led_72 rfl ?_
    refine k_ireturn eX12_led_73 rfl rfl ?_
    exact ⟨by rw [aLed, if_pos c_5, rrN_nI hz31, ddN_nI hz31], rfl⟩
  refine k_iconst (v := (-1)) eX12_led_8 (by decide) ?_
  refine k_ireturn eX12_led_9 rfl rfl ?_
  exact ⟨by rw [aLed, if_neg c_5], rfl⟩
set_option maxHeartbeats 400000 in
theorem lX12_lastCount {d : Nat} {Po : Option Value → k_H → Prop} (hdd : 0 ≤ d) {S : k_S} {V : k_V} (hV : vM S = V) {dn : Nat} (hdn : S.1 2611 = nI dn) (hcd : CntOk V dn) (kx : AW none MX12_lastCount d 0 0 39 [.ref 52, .int ((lstD (V 7) dn)), .int (nI dn)] [] (hp S) Po) : ∀ (n j : Nat), j + n = dn → AW none MX12_lastCount d 0 0 4 [.ref 52, .int ((lstD (V 7) j)), .int (nI j)] [] (hp S) Po := by
  intro n
  induction n with
  | zero =>
    intro j hj
    rw [show j = dn by omega]
    have hd4 := hcd.1
    refine k_iload_n eX12_lastCount_4 rfl ?_
    refine k_aload_n eX12_lastCount_5 rfl ?_
    refine GX12_183 eX12_lastCount_6 rfl ?_
    refine k_topi (nI dn) hdn ?_
    refine k_icmp_geN 39 eX12_lastCount_9 (by decide) (by omega) (by omega) (fun c_9 => ?_) (fun c_9 => by exfalso; omega)
    exact kx
  | succ n ih =>
    intro j hj
    have hd4 := hcd.1
    refine k_iload_n eX12_lastCount_4 rfl ?_
    refine k_aload_n eX12_lastCount_5 rfl ?_
    refine GX12_183 eX12_lastCount_6 rfl ?_
    refine k_topi (nI dn) hdn ?_
    refine k_icmp_geN 39 eX12_lastCount_9 (by decide) (by omega) (by omega) (fun c_9 => by exfalso; omega) (fun c_9 => ?_)
    refine k_aload_n eX12_lastCount_12 rfl ?_
    refine GX12_41 eX12_lastCount_13 rfl ?_
    refine k_iload_n eX12_lastCount_16 rfl ?_
    refine k_ialdN (j := j) eX12_lastCount_17 (ar62 _) (by omega) (Nat.le_of_ble_eq_true rfl) ?_
    refine k_topi ((V 7 j)) (congrFun (congrFun hV 7) _) ?_
    refine k_iload_n eX12_lastCount_18 rfl ?_
    refine k_icmp_le 31 eX12_lastCount_19 (by decide) (fun c_19 => ?_) (fun c_19 => ?_)
    · refine k_iload_n eX12_lastCount_31 rfl ?_
      refine k_istore_n (L2 := [_, _, _]) eX12_lastCount_32 (Nat.le_of_ble_eq_true rfl) rfl ?_
      refine k_iincN (g := 1) (a := j) (L2 := [_, _, _]) eX12_lastCount_33 (Nat.le_of_ble_eq_true rfl) rfl rfl ?_
      refine k_goto 4 eX12_lastCount_36 (by decide) ?_
      have q := ih (j + 1) (by omega)
      rw [lstD, mx] at q
      first | (rw [if_neg (Int32.not_lt.mpr c_19)] at q; exact q) | (rw [if_pos (Int32.not_le.mp c_19)] at q; exact q)
    refine k_aload_n eX12_lastCount_22 rfl ?_
    refine GX12_41 eX12_lastCount_23 rfl ?_
    refine k_iload_n eX12_lastCount_26 rfl ?_
    refine k_ialdN (j := j) eX12_lastCount_27 (ar62 _) (by omega) (Nat.le_of_ble_eq_true rfl) ?_
    refine k_topi ((V 7 j)) (congrFun (congrFun hV 7) _) ?_
    refine k_goto 32 eX12_lastCount_28 (by decide) ?_
    refine k_istore_n (L2 := [_, _, _]) eX12_lastCount_32 (Nat.le_of_ble_eq_true rfl) rfl ?_
    refine k_iincN (g := 1) (a := j) (L2 := [_, _, _]) eX12_lastCount_33 (Nat.le_of_ble_eq_true rfl) rfl rfl ?_
    refine k_goto 4 eX12_lastCount_36 (by decide) ?_
    have q := ih (j + 1) (by omega)
    rw [lstD, mx] at q
    first | (rw [if_neg (Int32.not_lt.mpr c_19)] at q; exact q) | (rw [if_pos (Int32.not_le.mp c_19)] at q; exact q)
set_option maxHeartbeats 400000 in
theorem pX12_lastCount {S : k_S} {V : k_V} (hV : vM S = V) {dn : Nat} (hdn : S.1 2611 = nI dn) (hcd : CntOk V dn) : Sp 0 0 0 MX12_lastCount [.ref 52] (hp S) (Rt (some (.int (lstD (V 7) dn))) (hp S)) := by
  refine Sp_of (by decide +kernel) (Nat.le_of_ble_eq_true rfl) ?_
  show AW none MX12_lastCount 0 0 0 0 [.ref 52, .null, .null] [] (hp S) _
  refine k_iconst (v := (-1)) eX12_lastCount_0 (by decide) ?_
  refine k_istore_n (L2 := [_, _, _]) eX12_lastCount_1 (Nat.le_of_ble_eq_true rfl) rfl ?_
  refine k_iconst (v := nI 0) eX12_lastCount_2 (by decide) ?_
  refine k_istore_n (L2 := [_, _, _]) eX12_lastCount_3 (Nat.le_of_ble_eq_true rfl) rfl ?_
  refine lX12_lastCount (by decide) hV hdn hcd ?_ dn 0 (by omega)
  refine k_iload_n eX12_lastCount_39 rfl ?_
  refine k_ireturn eX12_lastCount_40 rfl rfl ?_
  exact ⟨rfl, rfl⟩
set_option maxHeartbeats 400000 in
theorem lX12_taper {d : Nat} {Po : Option Value → k_H → Prop} (hdd : 3 ≤ d) {S : k_S} {V : k_V} (hV : vM S = V) {dn : Nat} (hdn : S.1 2611 = nI dn) (hcd : CntOk V dn) (hpl : PlanOk V) (h0 : RstOk V) {z m0 : Nat} (hz31 : z < 2 ^ 31) (hzr : z / 1000 < 5) (hzd : z % 1000 < 120) (hl0 : 0 < lsN V dn) (hl120 : lsN V dn ≤ 120) (w : Int32) (kx : AW none MX12_taper d 0 0 131 [.ref 52, .int (nI z), .int (w), .int (nI (lsN V dn - 1)), .int (nI ((tpS V dn (z / 1000) (lsN V dn) m0 ((lsN V dn - z % 1000))).2.2)), .int ((tpS V dn (z / 1000) (lsN V dn) m0 ((lsN V dn - z % 1000))).2.1), .int ((tpS V dn (z / 1000) (lsN V dn) m0 ((lsN V dn - z % 1000))).1), .int ((nI (lsN V dn - 1) - nI ((lsN V dn - z % 1000))))] [] (hp S) Po) : ∀ (n j : Nat), j + n = (lsN V dn - z % 1000) → AW none MX12_taper d 0 0 63 [.ref 52, .int (nI z), .int (w), .int (nI (lsN V dn - 1)), .int (nI ((tpS V dn (z / 1000) (lsN V dn) m0 j).2.2)), .int ((tpS V dn (z / 1000) (lsN V dn) m0 j).2.1), .int ((tpS V dn (z / 1000) (lsN V dn) m0 j).1), .int ((nI (lsN V dn - 1) - nI j))] [] (hp S) Po := by
  intro n
  induction n with
  | zero =>
    intro j hj
    rw [show j = (lsN V dn - z % 1000) by omega]
    refine k_iload eX12_taper_63 rfl ?_
    refine k_iload_n eX12_taper_65 rfl ?_
    refine k_sipush (v := nI 1000) eX12_taper_66 (by decide) ?_
    refine k_iremN eX12_taper_69 (by omega) (by omega) (by omega) ?_
    refine k_icmp_lt 131 eX12_taper_70 (by decide) (fun c_70 => ?_) (fun c_70 => by exact absurd ((sub_ltN (by omega) (by omega) (by omega)).mpr (by omega)) c_70)
    exact kx
  | succ n ih =>
    intro j hj
    refine k_iload eX12_taper_63 rfl ?_
    refine k_iload_n eX12_taper_65 rfl ?_
    refine k_sipush (v := nI 1000) eX12_taper_66 (by decide) ?_
    refine k_iremN eX12_taper_69 (by omega) (by omega) (by omega) ?_
    refine k_icmp_lt 131 eX12_taper_70 (by decide) (fun c_70 => by exact absurd ((sub_ltN (by omega) (by omega) (by omega)).mp c_70) (by omega)) (fun c_70 => ?_)
    refine k_loc (L2 := [_, _, _, _, _, _, _, .int (nI (lsN V dn - 1 - j))]) (by rw [pk_sub (show j ≤ lsN V dn - 1 by omega)]) ?_
    have hpw := hpl.lt (d := lsN V dn - 1 - j) (by omega)
    refine k_iload eX12_taper_73 rfl ?_
    refine k_aload_n eX12_taper_75 rfl ?_
    refine GX12_38 eX12_taper_76 rfl ?_
    refine k_iload eX12_taper_79 rfl ?_
    refine k_ialdN (j := (lsN V dn - 1 - j)) eX12_taper_81 (ar61 _) (by omega) (Nat.le_of_ble_eq_true rfl) ?_
    refine k_topi (nI (pw V (lsN V dn - 1 - j))) (mpl hV hpl (by omega)) ?_
    refine k_if_neN 89 eX12_taper_82 (by decide) (by omega) (fun c_82 => ?_) (fun c_82 => ?_)
    · refine k_aload_n eX12_taper_89 rfl ?_
      refine k_iload_n eX12_taper_90 rfl ?_
      refine k_sipush (v := nI 1000) eX12_taper_91 (by decide) ?_
      refine k_idivN eX12_taper_94 (by omega) (by omega) (by omega) ?_
      refine k_iload eX12_taper_95 rfl ?_
      refine k_aload_n eX12_taper_97 rfl ?_
      refine GX12_38 eX12_taper_98 rfl ?_
      refine k_iload eX12_taper_101 rfl ?_
      refine k_ialdN (j := (lsN V dn - 1 - j)) eX12_taper_103 (ar61 _) (by omega) (Nat.le_of_ble_eq_true rfl) ?_
      refine k_topi (nI (pw V (lsN V dn - 1 - j))) (mpl hV hpl (by omega)) ?_
      refine cV1 (M' := MX12_worthOf) eX12_taper_104 mX12_186 wX12_worthOf vX12_worthOf ⟨_, _, _, rfl, rfl, rfl⟩ rfl (pX12_worthOf (S := S) (V := V) (dn := dn) (r := (z / 1000)) (w := (pw V (lsN V dn - 1 - j))) (dd := (lsN V dn - 1 - j)) hV hdn hcd (by omega) (by omega) (by omega)) (by omega) (Nat.le_of_ble_eq_true rfl) ?_
      refine k_isub eX12_taper_107 ?_
      refine k_istore (L2 := [_, _, _, _, _, _, _, _]) eX12_taper_108 (Nat.le_of_ble_eq_true rfl) rfl ?_
      refine k_iload eX12_taper_110 rfl ?_
      refine k_iload eX12_taper_112 rfl ?_
      refine k_icmp_le 125 eX12_taper_114 (by decide) (fun c_114 => ?_) (fun c_114 => ?_)
      · refine k_loc (L2 := [_, _, _, _, _, _, _, .int (nI (lsN V dn - 1) - nI j)]) (by rw [pk_sub (show j ≤ lsN V dn - 1 by omega)]) ?_
        refine k_iinc (v := (nI (lsN V dn - 1) - nI j) + (-1)) (L2 := [_, _, _, _, _, _, _, _]) eX12_taper_125 (Nat.le_of_ble_eq_true rfl) rfl rfl rfl ?_
        refine k_goto 63 eX12_taper_128 (by decide) ?_
        have q := ih (j + 1) (by omega)
        rw [tpS, subS] at q
        first | (rw [if_neg (Int32.not_lt.mpr c_114)] at q; exact q) | (rw [if_pos (Int32.not_le.mp c_114)] at q; exact q) | (rw [show pw V (lsN V dn - 1 - j) = 0 by omega, wor_0 h0, if_neg (Int32.not_lt.mpr c_114)] at q; exact q) | (rw [show pw V (lsN V dn - 1 - j) = 0 by omega, wor_0 h0, if_pos (Int32.not_le.mp c_114)] at q; exact q)
      refine k_iload eX12_taper_117 rfl ?_
      refine k_istore (L2 := [_, _, _, _, _, _, _, _]) eX12_taper_119 (Nat.le_of_ble_eq_true rfl) rfl ?_
      refine k_iload eX12_taper_121 rfl ?_
      refine k_istore (L2 := [_, _, _, _, _, _, _, _]) eX12_taper_123 (Nat.le_of_ble_eq_true rfl) rfl ?_
      refine k_loc (L2 := [_, _, _, _, _, _, _, .int (nI (lsN V dn - 1) - nI j)]) (by rw [pk_sub (show j ≤ lsN V dn - 1 by omega)]) ?_
      refine k_iinc (v := (nI (lsN V dn - 1) - nI j) + (-1)) (L2 := [_, _, _, _, _, _, _, _]) eX12_taper_125 (Nat.le_of_ble_eq_true rfl) rfl rfl rfl ?_
      refine k_goto 63 eX12_taper_128 (by decide) ?_
      have q := ih (j + 1) (by omega)
      rw [tpS, subS] at q
      first | (rw [if_neg (Int32.not_lt.mpr c_114)] at q; exact q) | (rw [if_pos (Int32.not_le.mp c_114)] at q; exact q) | (rw [show pw V (lsN V dn - 1 - j) = 0 by omega, wor_0 h0, if_neg (Int32.not_lt.mpr c_114)] at q; exact q) | (rw [show pw V (lsN V dn - 1 - j) = 0 by omega, wor_0 h0, if_pos (Int32.not_le.mp c_114)] at q; exact q)
    refine k_iconst (v := nI 0) eX12_taper_85 (by decide) ?_
    refine k_goto 107 eX12_taper_86 (by decide) ?_
    refine k_isub eX12_taper_107 ?_
    refine k_istore (L2 := [_, _, _, _, _, _, _, _]) eX12_taper_108 (Nat.le_of_ble_eq_true rfl) rfl ?_
    refine k_iload eX12_taper_110 rfl ?_
    refine k_iload eX12_taper_112 rfl ?_
    refine k_icmp_le 125 eX12_taper_114 (by decide) (fun c_114 => ?_) (fun c_114 => ?_)
    · refine k_loc (L2 := [_, _, _, _, _, _, _, .int (nI (lsN V dn - 1) - nI j)]) (by rw [pk_sub (show j ≤ lsN V dn - 1 by omega)]) ?_
      refine k_iinc (v := (nI (lsN V dn - 1) - nI j) + (-1)) (L2 := [_, _, _, _, _, _, _, _]) eX12_taper_125 (Nat.le_of_ble_eq_true rfl) rfl rfl rfl ?_
      refine k_goto 63 eX12_taper_128 (by decide) ?_
      have q := ih (j + 1) (by omega)
      rw [tpS, subS] at q
      first | (rw [if_neg (Int32.not_lt.mpr c_114)] at q; exact q) | (rw [if_pos (Int32.not_le.mp c_114)] at q; exact q) | (rw [show pw V (lsN V dn - 1 - j) = 0 by omega, wor_0 h0, if_neg (Int32.not_lt.mpr c_114)] at q; exact q) | (rw [show pw V (lsN V dn - 1 - j) = 0 by omega, wor_0 h0, if_pos (Int32.not_le.mp c_114)] at q; exact q)
    refine k_iload eX12_taper_117 rfl ?_
    refine k_istore (L2 := [_, _, _, _, _, _, _, _]) eX12_taper_119 (Nat.le_of_ble_eq_true rfl) rfl ?_
    refine k_iload eX12_taper_121 rfl ?_
    refine k_istore (L2 := [_, _, _, _, _, _, _, _]) eX12_taper_123 (Nat.le_of_ble_eq_true rfl) rfl ?_
    refine k_loc (L2 := [_, _, _, _, _, _, _, .int (nI (lsN V dn - 1) - nI j)]) (by rw [pk_sub (show j ≤ lsN V dn - 1 by omega)]) ?_
    refine k_iinc (v := (nI (lsN V dn - 1) - nI j) + (-1)) (L2 := [_, _, _, _, _, _, _, _]) eX12_taper_125 (Nat.le_of_ble_eq_true rfl) rfl rfl rfl ?_
    refine k_goto 63 eX12_taper_128 (by decide) ?_
    have q := ih (j + 1) (by omega)
    rw [tpS, subS] at q
    first | (rw [if_neg (Int32.not_lt.mpr c_114)] at q; exact q) | (rw [if_pos (Int32.not_le.mp c_114)] at q; exact q) | (rw [show pw V (lsN V dn - 1 - j) = 0 by omega, wor_0 h0, if_neg (Int32.not_lt.mpr c_114)] at q; exact q) | (rw [show pw V (lsN V dn - 1 - j) = 0 by omega, wor_0 h0, if_pos (Int32.not_le.mp c_114)] at q; exact q)
set_option maxHeartbeats 400000 in
theorem pX12_taper {S : k_S} {V : k_V} (hV : vM S = V) {dn : Nat} (hdn : S.1 2611 = nI dn) (hcd : CntOk V dn) (hpl : PlanOk V) (h0 : RstOk V) {rn : Nat} (hrn : S.1 2604 = nI rn) (hrn5 : rn ≤ 5) (x w : Int32) : Sp 3 0 0 MX12_taper [.ref 52, .int (x), .int (w)] (hp S) (Rt (some (.int (aTap V dn (S.1 2604) x w))) (hp S)) := by
  refine Sp_of (by decide +kernel) (Nat.le_of_ble_eq_true rfl) ?_
  show AW none MX12_taper 3 0 0 0 [.ref 52, .int (x), .int (w), .null, .null, .null, .null, .null] [] (hp S) _
  refine k_aload_n eX12_taper_0 rfl ?_
  refine k_iload_n eX12_taper_1 rfl ?_
  refine cV1 (M' := MX12_isBoth) eX12_taper_2 mX12_175 wX12_isBoth vX12_isBoth ⟨_, _, _, rfl, rfl, rfl⟩ rfl (pX12_isBoth (S := S) (rn := rn) hrn hrn5 (x)) (by decide) (Nat.le_of_ble_eq_true rfl) ?_
  refine k_ifb_eq 17 eX12_taper_5 (by decide) (fun c_5 => ?_) (fun c_5 => ?_)
  · refine k_ldc eX12_taper_17 kX12_182 rfl ?_
    refine k_ireturn eX12_taper_19 rfl rfl ?_
    exact ⟨by rw [aTap, if_neg (fun q => by first | exact c_5 q.1 | exact c_14 q.2)], rfl⟩
  refine k_iload_n eX12_taper_8 rfl ?_
  refine k_iconst (v := nI 0) eX12_taper_9 (by decide) ?_
  refine k_iconst (v := nI 1) eX12_taper_10 (by decide) ?_
  refine cS1 (M' := MX12_in) eX12_taper_11 mX12_120 wX12_in sX12_in rfl (pX12_in (w) (nI 0) (nI 1)) (by decide) (Nat.le_of_ble_eq_true rfl) ?_
  refine k_ifb_ne 20 eX12_taper_14 (by decide) (fun c_14 => ?_) (fun c_14 => ?_)
  · obtain ⟨z, hz31, rfl, hzr, hzd⟩ := pRD_ex c_5 hrn hrn5
    refine k_aload_n eX12_taper_20 rfl ?_
    refine cV1 (M' := MX12_lastCount) eX12_taper_21 mX12_199 wX12_lastCount vX12_lastCount ⟨_, _, _, rfl, rfl, rfl⟩ rfl (pX12_lastCount (S := S) (V := V) (dn := dn) hV hdn hcd) (by decide) (Nat.le_of_ble_eq_true rfl) ?_
    refine k_istore_n (L2 := [_, _, _, _, _, _, _, _]) eX12_taper_24 (Nat.le_of_ble_eq_true rfl) rfl ?_
    refine k_iload_n eX12_taper_25 rfl ?_
    refine k_if_ge 32 eX12_taper_26 (by decide) (fun c_26 => ?_) (fun c_26 => ?_)
    · have hl0 : 0 < lsN V dn := (lst_neg hcd).mp c_26
      have hl120 := lsN_le hcd dn (Nat.le_refl _)
      refine k_loc (L2 := [_, _, _, .int (nI (lsN V dn - 1)), _, _, _, _]) (by rw [lstD_at hcd hl0]) ?_
      refine k_iload_n eX12_taper_32 rfl ?_
      refine k_sipush (v := nI 1000) eX12_taper_33 (by decide) ?_
      refine k_iremN eX12_taper_36 (by omega) (by omega) (by omega) ?_
      refine k_iload_n eX12_taper_37 rfl ?_
      refine k_icmp_leN 49 eX12_taper_38 (by decide) (by omega) (by omega) (fun c_38 => ?_) (fun c_38 => ?_)
      · refine k_iload_n eX12_taper_49 rfl ?_
        refine k_iconst (v := nI 1) eX12_taper_50 (by decide) ?_
        refine k_iaddN eX12_taper_51 ?_
        refine k_istore (L2 := [_, _, _, _, _, _, _, _]) eX12_taper_52 (Nat.le_of_ble_eq_true rfl) rfl ?_
        refine k_loc (L2 := [_, _, _, _, .int (nI (max (z % 1000) (lsN V dn - 1 + 1))), _, _, _]) (by first | rw [show max (z % 1000) (lsN V dn - 1 + 1) = z % 1000 by omega] | rw [show max (z % 1000) (lsN V dn - 1 + 1) = lsN V dn - 1 + 1 by omega]) ?_
        refine k_iconst (v := nI 0) eX12_taper_54 (by decide) ?_
        refine k_istore (L2 := [_, _, _, _, _, _, _, _]) eX12_taper_55 (Nat.le_of_ble_eq_true rfl) rfl ?_
        refine k_iconst (v := nI 0) eX12_taper_57 (by decide) ?_
        refine k_istore (L2 := [_, _, _, _, _, _, _, _]) eX12_taper_58 (Nat.le_of_ble_eq_true rfl) rfl ?_
        refine k_iload_n eX12_taper_60 rfl ?_
        refine k_istore (L2 := [_, _, _, _, _, _, _, _]) eX12_taper_61 (Nat.le_of_ble_eq_true rfl) rfl ?_
        refine k_loc (L2 := [_, _, _, _, _, _, _, .int (nI (lsN V dn - 1) - nI 0)]) (by rw [pk_sub (Nat.zero_le _)]; rfl) ?_
        refine lX12_taper (by decide) hV hdn hcd hpl h0 (m0 := max (z % 1000) (lsN V dn - 1 + 1)) hz31 (by omega) hzd hl0 hl120 w ?_ (lsN V dn - z % 1000) 0 (by omega)
        refine k_iload_n eX12_taper_131 rfl ?_
        refine k_if_ne 140 eX12_taper_132 (by decide) (fun c_132 => ?_) (fun c_132 => ?_)
        · refine k_iload eX12_taper_140 rfl ?_
          refine k_ireturn eX12_taper_142 rfl rfl ?_
          exact ⟨by rw [aTap, if_pos ⟨c_5, c_14⟩, if_neg (by omega), rrN_nI hz31, ddN_nI hz31, if_neg c_132]; rfl, rfl⟩
        refine k_iload eX12_taper_135 rfl ?_
        refine k_goto 142 eX12_taper_137 (by decide) ?_
        refine k_ireturn eX12_taper_142 rfl rfl ?_
        exact ⟨by rw [aTap, if_pos ⟨c_5, c_14⟩, if_neg (by omega), rrN_nI hz31, ddN_nI hz31, if_pos c_132]; rfl, rfl⟩
      refine k_iload_n eX12_taper_41 rfl ?_
      refine k_sipush (v := nI 1000) eX12_taper_42 (by decide) ?_
      refine k_iremN eX12_taper_45 (by omega) (by omega) (by omega) ?_
      refine k_goto 52 eX12_taper_46 (by decide) ?_
      refine k_istore (L2 := [_, _, _, _, _, _, _, _]) eX12_taper_52 (Nat.le_of_ble_eq_true rfl) rfl ?_
      refine k_loc (L2 := [_, _, _, _, .int (nI (max (z % 1000) (lsN V dn - 1 + 1))), _, _, _]) (by first | rw [show max (z % 1000) (lsN V dn - 1 + 1) = z % 1000 by omega] | rw [show max (z % 1000) (lsN V dn - 1 + 1) = lsN V dn - 1 + 1 by omega]) ?_
      refine k_iconst (v := nI 0) eX12_taper_54 (by decide) ?_
      refine k_istore (L2 := [_, _, _, _, _, _, _, _]) eX12_taper_55 (Nat.le_of_ble_eq_true rfl) rfl ?_
      refine k_iconst (v := nI 0) eX12_taper_57 (by decide) ?_
      refine k_istore (L2 := [_, _, _, _, _, _, _, _]) eX12_taper_58 (Nat.le_of_ble_eq_true rfl) rfl ?_
      refine k_iload_n eX12_taper_60 rfl ?_
      refine k_istore (L2 := [_, _, _, _, _, _, _, _]) eX12_taper_61 (Nat.le_of_ble_eq_true rfl) rfl ?_
      refine k_loc (L2 := [_, _, _, _, _, _, _, .int (nI (lsN V dn - 1) - nI 0)]) (by rw [pk_sub (Nat.zero_le _)]; rfl) ?_
      refine lX12_taper (by decide) hV hdn hcd hpl h0 (m0 := max (z % 1000) (lsN V dn - 1 + 1)) hz31 (by omega) hzd hl0 hl120 w ?_ (lsN V dn - z % 1000) 0 (by omega)
      refine k_iload_n eX12_taper_131 rfl ?_
      refine k_if_ne 140 eX12_taper_132 (by decide) (fun c_132 => ?_) (fun c_132 => ?_)
      · refine k_iload eX12_taper_140 rfl ?_
        refine k_ireturn eX12_taper_142 rfl rfl ?_
        exact ⟨by rw [aTap, if_pos ⟨c_5, c_14⟩, if_neg (by omega), rrN_nI hz31, ddN_nI hz31, if_neg c_132]; rfl, rfl⟩
      refine k_iload eX12_taper_135 rfl ?_
      refine k_goto 142 eX12_taper_137 (by decide) ?_
      refine k_ireturn eX12_taper_142 rfl rfl ?_
      exact ⟨by rw [aTap, if_pos ⟨c_5, c_14⟩, if_neg (by omega), rrN_nI hz31, ddN_nI hz31, if_pos c_132]; rfl, rfl⟩
    refine k_bipush (v := (-2)) eX12_taper_29 (by decide) ?_
    refine k_ireturn eX12_taper_31 rfl rfl ?_
    have hl0 : lsN V dn = 0 := Nat.le_zero.mp (Nat.not_lt.mp (fun q => c_26 ((lst_neg hcd).mpr q)))
    exact ⟨by rw [aTap, if_pos ⟨c_5, c_14⟩, if_pos hl0], rfl⟩
  refine k_ldc eX12_taper_17 kX12_182 rfl ?_
  refine k_ireturn eX12_taper_19 rfl rfl ?_
  exact ⟨by rw [aTap, if_neg (fun q => by first | exact c_5 q.1 | exact c_14 q.2)], rfl⟩
set_option maxHeartbeats 400000 in
theorem lX12_coldA {d : Nat} {Po : Option Value → k_H → Prop} (hdd : 3 ≤ d) {S : k_S} {V : k_V} (hV : vM S = V) {dn : Nat} (hdn : S.1 2611 = nI dn) (hcd : CntOk V dn) (hpl : PlanOk V) (h0 : RstOk V) {z m : Nat} (hz31 : z < 2 ^ 31) (hzr : z / 1000 < 5) (hzd : z % 1000 < 120) (hm : m ≤ 30) (hc : m ≤ 120 - z % 1000) (kx : AW none MX12_cold d 0 0 90 [.ref 52, .int (nI z), .int (nI m), .int (lsS (fun j => wor V dn (z / 1000) (pw V (z % 1000 + j)) (z % 1000 + j)) m), .int (nI (z % 1000 + m))] [] (hp S) Po) : ∀ (n j : Nat), j + n = m → AW none MX12_cold d 0 0 30 [.ref 52, .int (nI z), .int (nI m), .int (lsS (fun j => wor V dn (z / 1000) (pw V (z % 1000 + j)) (z % 1000 + j)) j), .int (nI (z % 1000 + j))] [] (hp S) Po := by
  intro n
  induction n with
  | zero =>
    intro j hj
    rw [show j = m by omega]
    refine k_iload eX12_cold_30 rfl ?_
    refine k_iload_n eX12_cold_32 rfl ?_
    refine k_sipush (v := nI 1000) eX12_cold_33 (by decide) ?_
    refine k_iremN eX12_cold_36 (by omega) (by omega) (by omega) ?_
    refine k_iload_n eX12_cold_37 rfl ?_
    refine k_iaddN eX12_cold_38 ?_
    refine k_icmp_geN 90 eX12_cold_39 (by decide) (by omega) (by omega) (fun c_39 => ?_) (fun c_39 => by exfalso; omega)
    exact kx
  | succ n ih =>
    intro j hj
    have hpw := hpl.lt (d := z % 1000 + j) (by omega)
    refine k_iload eX12_cold_30 rfl ?_
    refine k_iload_n eX12_cold_32 rfl ?_
    refine k_sipush (v := nI 1000) eX12_cold_33 (by decide) ?_
    refine k_iremN eX12_cold_36 (by omega) (by omega) (by omega) ?_
    refine k_iload_n eX12_cold_37 rfl ?_
    refine k_iaddN eX12_cold_38 ?_
    refine k_icmp_geN 90 eX12_cold_39 (by decide) (by omega) (by omega) (fun c_39 => by exfalso; omega) (fun c_39 => ?_)
    refine k_iload eX12_cold_42 rfl ?_
    refine k_bipush (v := nI 120) eX12_cold_44 (by decide) ?_
    refine k_icmp_geN 90 eX12_cold_46 (by decide) (by omega) (by omega) (fun c_46 => by exfalso; omega) (fun c_46 => ?_)
    refine k_iload_n eX12_cold_49 rfl ?_
    refine k_aload_n eX12_cold_50 rfl ?_
    refine GX12_38 eX12_cold_51 rfl ?_
    refine k_iload eX12_cold_54 rfl ?_
    refine k_ialdN (j := (z % 1000 + j)) eX12_cold_56 (ar61 _) (by omega) (Nat.le_of_ble_eq_true rfl) ?_
    refine k_topi (nI (pw V (z % 1000 + j))) (mpl hV hpl (by omega)) ?_
    refine k_if_neN 64 eX12_cold_57 (by decide) (by omega) (fun c_57 => ?_) (fun c_57 => ?_)
    · refine k_aload_n eX12_cold_64 rfl ?_
      refine k_iload_n eX12_cold_65 rfl ?_
      refine k_sipush (v := nI 1000) eX12_cold_66 (by decide) ?_
      refine k_idivN eX12_cold_69 (by omega) (by omega) (by omega) ?_
      refine k_iload eX12_cold_70 rfl ?_
      refine k_aload_n eX12_cold_72 rfl ?_
      refine GX12_38 eX12_cold_73 rfl ?_
      refine k_iload eX12_cold_76 rfl ?_
      refine k_ialdN (j := (z % 1000 + j)) eX12_cold_78 (ar61 _) (by omega) (Nat.le_of_ble_eq_true rfl) ?_
      refine k_topi (nI (pw V (z % 1000 + j))) (mpl hV hpl (by omega)) ?_
      refine cV1 (M' := MX12_worthOf) eX12_cold_79 mX12_186 wX12_worthOf vX12_worthOf ⟨_, _, _, rfl, rfl, rfl⟩ rfl (pX12_worthOf (S := S) (V := V) (dn := dn) (r := (z / 1000)) (w := (pw V (z % 1000 + j))) (dd := (z % 1000 + j)) hV hdn hcd (by omega) (by omega) (by omega)) (by omega) (Nat.le_of_ble_eq_true rfl) ?_
      refine k_isub eX12_cold_82 ?_
      refine k_istore_n (L2 := [_, _, _, _, _]) eX12_cold_83 (Nat.le_of_ble_eq_true rfl) rfl ?_
      refine k_iincN (g := 1) (a := (z % 1000 + j)) (L2 := [_, _, _, _, _]) eX12_cold_84 (Nat.le_of_ble_eq_true rfl) rfl rfl ?_
      refine k_goto 30 eX12_cold_87 (by decide) ?_
      have q := ih (j + 1) (by omega)
      rw [lsS] at q
      first | exact q | (rw [show pw V (z % 1000 + j) = 0 by omega, wor_0 h0] at q; exact q)
    refine k_iconst (v := nI 0) eX12_cold_60 (by decide) ?_
    refine k_goto 82 eX12_cold_61 (by decide) ?_
    refine k_isub eX12_cold_82 ?_
    refine k_istore_n (L2 := [_, _, _, _, _]) eX12_cold_83 (Nat.le_of_ble_eq_true rfl) rfl ?_
    refine k_iincN (g := 1) (a := (z % 1000 + j)) (L2 := [_, _, _, _, _]) eX12_cold_84 (Nat.le_of_ble_eq_true rfl) rfl rfl ?_
    refine k_goto 30 eX12_cold_87 (by decide) ?_
    have q := ih (j + 1) (by omega)
    rw [lsS] at q
    first | exact q | (rw [show pw V (z % 1000 + j) = 0 by omega, wor_0 h0] at q; exact q)
set_option maxHeartbeats 400000 in
theorem lX12_coldB {d : Nat} {Po : Option Value → k_H → Prop} (hdd : 3 ≤ d) {S : k_S} {V : k_V} (hV : vM S = V) {dn : Nat} (hdn : S.1 2611 = nI dn) (hcd : CntOk V dn) (hpl : PlanOk V) (h0 : RstOk V) {z m : Nat} (hz31 : z < 2 ^ 31) (hzr : z / 1000 < 5) (hzd : z % 1000 < 120) (hm : m ≤ 30) (hc : ¬ m ≤ 120 - z % 1000) (kx : AW none MX12_cold d 0 0 90 [.ref 52, .int (nI z), .int (nI m), .int (lsS (fun j => wor V dn (z / 1000) (pw V (z % 1000 + j)) (z % 1000 + j)) ((120 - z % 1000))), .int (nI (z % 1000 + ((120 - z % 1000))))] [] (hp S) Po) : ∀ (n j : Nat), j + n = (120 - z % 1000) → AW none MX12_cold d 0 0 30 [.ref 52, .int (nI z), .int (nI m), .int (lsS (fun j => wor V dn (z / 1000) (pw V (z % 1000 + j)) (z % 1000 + j)) j), .int (nI (z % 1000 + j))] [] (hp S) Po := by
  intro n
  induction n with
  | zero =>
    intro j hj
    rw [show j = (120 - z % 1000) by omega]
    refine k_iload eX12_cold_30 rfl ?_
    refine k_iload_n eX12_cold_32 rfl ?_
    refine k_sipush (v := nI 1000) eX12_cold_33 (by decide) ?_
    refine k_iremN eX12_cold_36 (by omega) (by omega) (by omega) ?_
    refine k_iload_n eX12_cold_37 rfl ?_
    refine k_iaddN eX12_cold_38 ?_
    refine k_icmp_geN 90 eX12_cold_39 (by decide) (by omega) (by omega) (fun c_39 => by exfalso; omega) (fun c_39 => ?_)
    refine k_iload eX12_cold_42 rfl ?_
    refine k_bipush (v := nI 120) eX12_cold_44 (by decide) ?_
    refine k_icmp_geN 90 eX12_cold_46 (by decide) (by omega) (by omega) (fun c_46 => ?_) (fun c_46 => by exfalso; omega)
    exact kx
  | succ n ih =>
    intro j hj
    have hpw := hpl.lt (d := z % 1000 + j) (by omega)
    refine k_iload eX12_cold_30 rfl ?_
    refine k_iload_n eX12_cold_32 rfl ?_
    refine k_sipush (v := nI 1000) eX12_cold_33 (by decide) ?_
    refine k_iremN eX12_cold_36 (by omega) (by omega) (by omega) ?_
    refine k_iload_n eX12_cold_37 rfl ?_
    refine k_iaddN eX12_cold_38 ?_
    refine k_icmp_geN 90 eX12_cold_39 (by decide) (by omega) (by omega) (fun c_39 => by exfalso; omega) (fun c_39 => ?_)
    refine k_iload eX12_cold_42 rfl ?_
    refine k_bipush (v := nI 120) eX12_cold_44 (by decide) ?_
    refine k_icmp_geN 90 eX12_cold_46 (by decide) (by omega) (by omega) (fun c_46 => by exfalso; omega) (fun c_46 => ?_)
    refine k_iload_n eX12_cold_49 rfl ?_
    refine k_aload_n eX12_cold_50 rfl ?_
    refine GX12_38 eX12_cold_51 rfl ?_
    refine k_iload eX12_cold_54 rfl ?_
    refine k_ialdN (j := (z % 1000 + j)) eX12_cold_56 (ar61 _) (by omega) (Nat.le_of_ble_eq_true rfl) ?_
    refine k_topi (nI (pw V (z % 1000 + j))) (mpl hV hpl (by omega)) ?_
    refine k_if_neN 64 eX12_cold_57 (by decide) (by omega) (fun c_57 => ?_) (fun c_57 => ?_)
    · refine k_aload_n eX12_cold_64 rfl ?_
      refine k_iload_n eX12_cold_65 rfl ?_
      refine k_sipush (v := nI 1000) eX12_cold_66 (by decide) ?_
      refine k_idivN eX12_cold_69 (by omega) (by omega) (by omega) ?_
      refine k_iload eX12_cold_70 rfl ?_
      refine k_aload_n eX12_cold_72 rfl ?_
      refine GX12_38 eX12_cold_73 rfl ?_
      refine k_iload eX12_cold_76 rfl ?_
      refine k_ialdN (j := (z % 1000 + j)) eX12_cold_78 (ar61 _) (by omega) (Nat.le_of_ble_eq_true rfl) ?_
      refine k_topi (nI (pw V (z % 1000 + j))) (mpl hV hpl (by omega)) ?_
      refine cV1 (M' := MX12_worthOf) eX12_cold_79 mX12_186 wX12_worthOf vX12_worthOf ⟨_, _, _, rfl, rfl, rfl⟩ rfl (pX12_worthOf (S := S) (V := V) (dn := dn) (r := (z / 1000)) (w := (pw V (z % 1000 + j))) (dd := (z % 1000 + j)) hV hdn hcd (by omega) (by omega) (by omega)) (by omega) (Nat.le_of_ble_eq_true rfl) ?_
      refine k_isub eX12_cold_82 ?_
      refine k_istore_n (L2 := [_, _, _, _, _]) eX12_cold_83 (Nat.le_of_ble_eq_true rfl) rfl ?_
      refine k_iincN (g := 1) (a := (z % 1000 + j)) (L2 := [_, _, _, _, _]) eX12_cold_84 (Nat.le_of_ble_eq_true rfl) rfl rfl ?_
      refine k_goto 30 eX12_cold_87 (by decide) ?_
      have q := ih (j + 1) (by omega)
      rw [lsS] at q
      first | exact q | (rw [show pw V (z % 1000 + j) = 0 by omega, wor_0 h0] at q; exact q)
    refine k_iconst (v := nI 0) eX12_cold_60 (by decide) ?_
    refine k_goto 82 eX12_cold_61 (by decide) ?_
    refine k_isub eX12_cold_82 ?_
    refine k_istore_n (L2 := [_, _, _, _, _]) eX12_cold_83 (Nat.le_of_ble_eq_true rfl) rfl ?_
    refine k_iincN (g := 1) (a := (z % 1000 + j)) (L2 := [_, _, _, _, _]) eX12_cold_84 (Nat.le_of_ble_eq_true rfl) rfl rfl ?_
    refine k_goto 30 eX12_cold_87 (by decide) ?_
    have q := ih (j + 1) (by omega)
    rw [lsS] at q
    first | exact q | (rw [show pw V (z % 1000 + j) = 0 by omega, wor_0 h0] at q; exact q)
set_option maxHeartbeats 400000 in
theorem pX12_cold {S : k_S} {V : k_V} (hV : vM S = V) {dn : Nat} (hdn : S.1 2611 = nI dn) (hcd : CntOk V dn) (hpl : PlanOk V) (h0 : RstOk V) {rn : Nat} (hrn : S.1 2604 = nI rn) (hrn5 : rn ≤ 5) (x y : Int32) : Sp 3 0 0 MX12_cold [.ref 52, .int (x), .int (y)] (hp S) (Rt (some (.int (aCold V dn (S.1 2604) x y))) (hp S)) := by
  refine Sp_of (by decide +kernel) (Nat.le_of_ble_eq_true rfl) ?_
  show AW none MX12_cold 3 0 0 0 [.ref 52, .int (x), .int (y), .null, .null] [] (hp S) _
  refine k_aload_n eX12_cold_0 rfl ?_
  refine k_iload_n eX12_cold_1 rfl ?_
  refine cV1 (M' := MX12_isBoth) eX12_cold_2 mX12_175 wX12_isBoth vX12_isBoth ⟨_, _, _, rfl, rfl, rfl⟩ rfl (pX12_isBoth (S := S) (rn := rn) hrn hrn5 (x)) (by decide) (Nat.le_of_ble_eq_true rfl) ?_
  refine k_ifb_eq 18 eX12_cold_5 (by decide) (fun c_5 => ?_) (fun c_5 => ?_)
  · refine k_ldc eX12_cold_18 kX12_182 rfl ?_
    refine k_ireturn eX12_cold_20 rfl rfl ?_
    exact ⟨by rw [aCold, if_neg (fun q => by first | exact c_5 q.1 | exact c_15 q.2)], rfl⟩
  refine k_iload_n eX12_cold_8 rfl ?_
  refine k_iconst (v := nI 1) eX12_cold_9 (by decide) ?_
  refine k_bipush (v := nI 30) eX12_cold_10 (by decide) ?_
  refine cS1 (M' := MX12_in) eX12_cold_12 mX12_120 wX12_in sX12_in rfl (pX12_in (y) (nI 1) (nI 30)) (by decide) (Nat.le_of_ble_eq_true rfl) ?_
  refine k_ifb_ne 21 eX12_cold_15 (by decide) (fun c_15 => ?_) (fun c_15 => ?_)
  · obtain ⟨z, hz31, rfl, hzr, hzd⟩ := pRD_ex c_5 hrn hrn5
    obtain ⟨m, hm, rfl⟩ := k_rngle (Int32.le_trans (by decide) c_15.1) c_15.2 (by decide)
    refine k_iconst (v := nI 0) eX12_cold_21 (by decide) ?_
    refine k_istore_n (L2 := [_, _, _, _, _]) eX12_cold_22 (Nat.le_of_ble_eq_true rfl) rfl ?_
    refine k_iload_n eX12_cold_23 rfl ?_
    refine k_sipush (v := nI 1000) eX12_cold_24 (by decide) ?_
    refine k_iremN eX12_cold_27 (by omega) (by omega) (by omega) ?_
    refine k_istore (L2 := [_, _, _, _, _]) eX12_cold_28 (Nat.le_of_ble_eq_true rfl) rfl ?_
    have key : ∀ k, k = min m (120 - z % 1000) → AW none MX12_cold 3 0 0 90 [.ref 52, .int (nI z), .int (nI m), .int (lsS (fun j => wor V dn (z / 1000) (pw V (z % 1000 + j)) (z % 1000 + j)) k), .int (nI (z % 1000 + k))] [] (hp S) (Rt (some (.int (aCold V dn (S.1 2604) (nI z) (nI m)))) (hp S)) := by
      intro k hk
      subst hk
      refine k_iload_n eX12_cold_90 rfl ?_
      refine k_ireturn eX12_cold_91 rfl rfl ?_
      exact ⟨by rw [aCold, if_pos ⟨c_5, c_15⟩, rrN_nI hz31, ddN_nI hz31, ix_nI (by omega)], rfl⟩
    refine k_loc (L2 := [_, _, _, _, .int (nI (z % 1000 + 0))]) rfl ?_
    by_cases hc : m ≤ 120 - z % 1000
    · exact lX12_coldA (by decide) hV hdn hcd hpl h0 hz31 (by omega) hzd hm hc (key m (by omega)) m 0 (by omega)
    · exact lX12_coldB (by decide) hV hdn hcd hpl h0 hz31 (by omega) hzd hm hc (key (120 - z % 1000) (by omega)) (120 - z % 1000) 0 (by omega)
  refine k_ldc eX12_cold_18 kX12_182 rfl ?_
  refine k_ireturn eX12_cold_20 rfl rfl ?_
  exact ⟨by rw [aCold, if_neg (fun q => by first | exact c_5 q.1 | exact c_15 q.2)], rfl⟩
set_option maxHeartbeats 400000 in
theorem lX12_alike {d : Nat} {Po : Option Value → k_H → Prop} (hdd : 3 ≤ d) {S : k_S} {V : k_V} (hV : vM S = V) (hpl : PlanOk V) {z : Nat} (hz31 : z < 2 ^ 31) (hza : z / 10 < 5) (hzb : z % 10 < 5) (kx : AW none MX12_alike d 0 0 88 [.ref 52, .int (nI z), .int (nI (alN V (z / 10) (z % 10) 120)), .int (nI 120)] [] (hp S) Po) : ∀ (n j : Nat), j + n = 120 → AW none MX12_alike d 0 0 43 [.ref 52, .int (nI z), .int (nI (alN V (z / 10) (z % 10) j)), .int (nI j)] [] (hp S) Po := by
  intro n
  induction n with
  | zero =>
    intro j hj
    rw [show j = 120 by omega]
    refine k_iload_n eX12_alike_43 rfl ?_
    refine k_bipush (v := nI 120) eX12_alike_44 (by decide) ?_
    refine k_icmp_geN 88 eX12_alike_46 (by decide) (by omega) (by omega) (fun c_46 => ?_) (fun c_46 => by exfalso; omega)
    exact kx
  | succ n ih =>
    intro j hj
    have hal := alN_le V (z / 10) (z % 10) j
    refine k_iload_n eX12_alike_43 rfl ?_
    refine k_bipush (v := nI 120) eX12_alike_44 (by decide) ?_
    refine k_icmp_geN 88 eX12_alike_46 (by decide) (by omega) (by omega) (fun c_46 => by exfalso; omega) (fun c_46 => ?_)
    refine k_iload_n eX12_alike_49 rfl ?_
    refine k_aload_n eX12_alike_50 rfl ?_
    refine k_iload_n eX12_alike_51 rfl ?_
    refine k_bipush (v := nI 10) eX12_alike_52 (by decide) ?_
    refine k_idivN eX12_alike_54 (by omega) (by omega) (by omega) ?_
    refine k_iload_n eX12_alike_55 rfl ?_
    refine k_iconst (v := nI 0) eX12_alike_56 (by decide) ?_
    refine k_iconst (v := nI 0) eX12_alike_57 (by decide) ?_
    refine cV1 (M' := MX12_sumOf) eX12_alike_58 mX12_178 wX12_sumOf vX12_sumOf ⟨_, _, _, rfl, rfl, rfl⟩ rfl (pX12_sumOf (S := S) (V := V) (r := (z / 10)) (dd := j) (q := 0) (g := 0) hV hpl (by omega) (by omega) (by omega) (by omega)) (by omega) (Nat.le_of_ble_eq_true rfl) ?_
    refine k_aload_n eX12_alike_61 rfl ?_
    refine k_iload_n eX12_alike_62 rfl ?_
    refine k_bipush (v := nI 10) eX12_alike_63 (by decide) ?_
    refine k_iremN eX12_alike_65 (by omega) (by omega) (by omega) ?_
    refine k_iload_n eX12_alike_66 rfl ?_
    refine k_iconst (v := nI 0) eX12_alike_67 (by decide) ?_
    refine k_iconst (v := nI 0) eX12_alike_68 (by decide) ?_
    refine cV1 (M' := MX12_sumOf) eX12_alike_69 mX12_178 wX12_sumOf vX12_sumOf ⟨_, _, _, rfl, rfl, rfl⟩ rfl (pX12_sumOf (S := S) (V := V) (r := (z % 10)) (dd := j) (q := 0) (g := 0) hV hpl (by omega) (by omega) (by omega) (by omega)) (by omega) (Nat.le_of_ble_eq_true rfl) ?_
    refine k_icmp_le 79 eX12_alike_72 (by decide) (fun c_72 => ?_) (fun c_72 => ?_)
    · refine k_iconst (v := nI 0) eX12_alike_79 (by decide) ?_
      refine k_iaddN eX12_alike_80 ?_
      refine k_istore_n (L2 := [_, _, _, _]) eX12_alike_81 (Nat.le_of_ble_eq_true rfl) rfl ?_
      refine k_iincN (g := 1) (a := j) (L2 := [_, _, _, _]) eX12_alike_82 (Nat.le_of_ble_eq_true rfl) rfl rfl ?_
      refine k_goto 43 eX12_alike_85 (by decide) ?_
      have q := ih (j + 1) (by omega)
      rw [alN, ← smV_fit, ← smV_fit] at q
      first | (rw [if_neg (Int32.not_lt.mpr c_72)] at q; exact q) | (rw [if_pos (Int32.not_le.mp c_72)] at q; exact q)
    refine k_iconst (v := nI 1) eX12_alike_75 (by decide) ?_
    refine k_goto 80 eX12_alike_76 (by decide) ?_
    refine k_iaddN eX12_alike_80 ?_
    refine k_istore_n (L2 := [_, _, _, _]) eX12_alike_81 (Nat.le_of_ble_eq_true rfl) rfl ?_
    refine k_iincN (g := 1) (a := j) (L2 := [_, _, _, _]) eX12_alike_82 (Nat.le_of_ble_eq_true rfl) rfl rfl ?_
    refine k_goto 43 eX12_alike_85 (by decide) ?_
    have q := ih (j + 1) (by omega)
    rw [alN, ← smV_fit, ← smV_fit] at q
    first | (rw [if_neg (Int32.not_lt.mpr c_72)] at q; exact q) | (rw [if_pos (Int32.not_le.mp c_72)] at q; exact q)
set_option maxHeartbeats 400000 in
theorem pX12_alike {S : k_S} {V : k_V} (hV : vM S = V) (hpl : PlanOk V) {rn : Nat} (hrn : S.1 2604 = nI rn) (hrn5 : rn ≤ 5) (x : Int32) : Sp 3 0 0 MX12_alike [.ref 52, .int (x)] (hp S) (Rt (some (.int (aAlk V (S.1 2604) x))) (hp S)) := by
  refine Sp_of (by decide +kernel) (Nat.le_of_ble_eq_true rfl) ?_
  show AW none MX12_alike 3 0 0 0 [.ref 52, .int (x), .null, .null] [] (hp S) _
  refine k_iload_n eX12_alike_0 rfl ?_
  refine k_if_lt 37 eX12_alike_1 (by decide) (fun c_1 => ?_) (fun c_1 => ?_)
  · refine k_iconst (v := (-1)) eX12_alike_37 (by decide) ?_
    refine k_ireturn eX12_alike_38 rfl rfl ?_
    exact ⟨by rw [aAlk, if_neg (fun q => by first | exact q.1 c_1 | exact c_12 q.2.1 | exact c_23 q.2.2.1 | exact q.2.2.2 c_34 | exact q.2.2.2 (Decidable.not_not.mp c_34))], rfl⟩
  refine k_aload_n eX12_alike_4 rfl ?_
  refine k_iload_n eX12_alike_5 rfl ?_
  refine k_bipush (v := nI 10) eX12_alike_6 (by decide) ?_
  refine k_idiv eX12_alike_8 (by decide) ?_
  refine cV1 (M' := MX12_isRunner) eX12_alike_9 mX12_127 wX12_isRunner vX12_isRunner ⟨_, _, _, rfl, rfl, rfl⟩ rfl (pX12_isRunner (S := S) (rn := rn) hrn hrn5 ((x / nI 10))) (by decide) (Nat.le_of_ble_eq_true rfl) ?_
  refine k_ifb_eq 37 eX12_alike_12 (by decide) (fun c_12 => ?_) (fun c_12 => ?_)
  · refine k_iconst (v := (-1)) eX12_alike_37 (by decide) ?_
    refine k_ireturn eX12_alike_38 rfl rfl ?_
    exact ⟨by rw [aAlk, if_neg (fun q => by first | exact q.1 c_1 | exact c_12 q.2.1 | exact c_23 q.2.2.1 | exact q.2.2.2 c_34 | exact q.2.2.2 (Decidable.not_not.mp c_34))], rfl⟩
  refine k_aload_n eX12_alike_15 rfl ?_
  refine k_iload_n eX12_alike_16 rfl ?_
  refine k_bipush (v := nI 10) eX12_alike_17 (by decide) ?_
  refine k_irem eX12_alike_19 (by decide) ?_
  refine cV1 (M' := MX12_isRunner) eX12_alike_20 mX12_127 wX12_isRunner vX12_isRunner ⟨_, _, _, rfl, rfl, rfl⟩ rfl (pX12_isRunner (S := S) (rn := rn) hrn hrn5 ((x - x / nI 10 * nI 10))) (by decide) (Nat.le_of_ble_eq_true rfl) ?_
  refine k_ifb_eq 37 eX12_alike_23 (by decide) (fun c_23 => ?_) (fun c_23 => ?_)
  · refine k_iconst (v := (-1)) eX12_alike_37 (by decide) ?_
    refine k_ireturn eX12_alike_38 rfl rfl ?_
    exact ⟨by rw [aAlk, if_neg (fun q => by first | exact q.1 c_1 | exact c_12 q.2.1 | exact c_23 q.2.2.1 | exact q.2.2.2 c_34 | exact q.2.2.2 (Decidable.not_not.mp c_34))], rfl⟩
  refine k_iload_n eX12_alike_26 rfl ?_
  refine k_bipush (v := nI 10) eX12_alike_27 (by decide) ?_
  refine k_idiv eX12_alike_29 (by decide) ?_
  refine k_iload_n eX12_alike_30 rfl ?_
  refine k_bipush (v := nI 10) eX12_alike_31 (by decide) ?_
  refine k_irem eX12_alike_33 (by decide) ?_
  refine k_icmp_ne 39 eX12_alike_34 (by decide) (fun c_34 => ?_) (fun c_34 => ?_)
  · have hC : pAlk (S.1 2604) x := ⟨c_1, c_12, c_23, c_34⟩
    obtain ⟨z, hz31, rfl, hza, hzb⟩ := pAlk_ex hC hrn hrn5
    refine k_iconst (v := nI 0) eX12_alike_39 (by decide) ?_
    refine k_istore_n (L2 := [_, _, _, _]) eX12_alike_40 (Nat.le_of_ble_eq_true rfl) rfl ?_
    refine k_iconst (v := nI 0) eX12_alike_41 (by decide) ?_
    refine k_istore_n (L2 := [_, _, _, _]) eX12_alike_42 (Nat.le_of_ble_eq_true rfl) rfl ?_
    refine lX12_alike (by decide) hV hpl hz31 (by omega) (by omega) ?_ 120 0 (by omega)
    refine k_iload_n eX12_alike_88 rfl ?_
    refine k_ireturn eX12_alike_89 rfl rfl ?_
    exact ⟨by rw [aAlk, if_pos hC, (dmN hz31 (by decide) (by decide)).1, (dmN hz31 (by decide) (by decide)).2, ix_nI (by omega), ix_nI (by omega)], rfl⟩
  refine k_iconst (v := (-1)) eX12_alike_37 (by decide) ?_
  refine k_ireturn eX12_alike_38 rfl rfl ?_
  exact ⟨by rw [aAlk, if_neg (fun q => by first | exact q.1 c_1 | exact c_12 q.2.1 | exact c_23 q.2.2.1 | exact q.2.2.2 c_34 | exact q.2.2.2 (Decidable.not_not.mp c_34))], rfl⟩
set_option maxHeartbeats 400000 in
theorem pX12_forget {S : k_S} : Sp 0 0 0 MX12_forget [.ref 52] (hp S) (Rt (some (.int (S.1 2611))) (hp (si S 2611 (nI 0)))) := by
  refine Sp_of (by decide +kernel) (Nat.le_of_ble_eq_true rfl) ?_
  show AW none MX12_forget 0 0 0 0 [.ref 52, .null] [] (hp S) _
  refine k_aload_n eX12_forget_0 rfl ?_
  refine GX12_183 eX12_forget_1 rfl ?_
  refine k_istore_n (L2 := [_, _]) eX12_forget_4 (Nat.le_of_ble_eq_true rfl) rfl ?_
  refine k_aload_n eX12_forget_5 rfl ?_
  refine k_iconst (v := nI 0) eX12_forget_6 (by decide) ?_
  refine PX12_183 eX12_forget_7 rfl ?_
  refine k_iload_n eX12_forget_10 rfl ?_
  refine k_ireturn eX12_forget_11 rfl rfl ?_
  exact ⟨rfl, rfl⟩
def mCntS (S : k_S) (dn : Nat) (x w : Int32) : k_S := if pCnt (S.2.1 62) dn x w then (if dn = 4 then S else si (sa (sa S 62 (va_up (S.2.1 62) dn x)) 63 (va_up (S.2.1 63) dn w)) 2611 (nI (dn + 1))) else S
abbrev pGd (f : Nat → Int32) (x w : Int32) (j : Nat) : Prop := pD x ∧ pIn w (nI 1) (nI 9) ∧ ¬ tld f x j = true
theorem pGd_s {f : Nat → Int32} {x w : Int32} {j : Nat} : pGd f x w (j + 1) ↔ pGd f x w j ∧ ¬ f j = x := by
  unfold pGd
  rw [tld]
  simp only [Bool.or_eq_true, decide_eq_true_iff, not_or]
  exact ⟨fun h => ⟨⟨h.1, h.2.1, h.2.2.1⟩, h.2.2.2⟩, fun h => ⟨h.1.1, h.1.2.1, h.1.2.2, h.2⟩⟩
set_option maxHeartbeats 400000 in
theorem lX12_counts {d : Nat} {Po : Option Value → k_H → Prop} (hdd : 0 ≤ d) {S : k_S} {dn : Nat} (hdn : S.1 2611 = nI dn) (hd4 : dn ≤ 4) (x w : Int32) (kx : AW none MX12_counts d 0 0 62 [.ref 52, .int (x), .int (w), .int (b2i (pGd (S.2.1 62) x w dn)), .int (nI dn)] [] (hp S) Po) : ∀ (n j : Nat), j + n = dn → AW none MX12_counts d 0 0 26 [.ref 52, .int (x), .int (w), .int (b2i (pGd (S.2.1 62) x w j)), .int (nI j)] [] (hp S) Po := by
  intro n
  induction n with
  | zero =>
    intro j hj
    rw [show j = dn by omega]
    refine k_iload eX12_counts_26 rfl ?_
    refine k_aload_n eX12_counts_28 rfl ?_
    refine GX12_183 eX12_counts_29 rfl ?_
    refine k_topi (nI dn) hdn ?_
    refine k_icmp_geN 62 eX12_counts_32 (by decide) (by omega) (by omega) (fun c_32 => ?_) (fun c_32 => by exfalso; omega)
    exact kx
  | succ n ih =>
    intro j hj
    refine k_iload eX12_counts_26 rfl ?_
    refine k_aload_n eX12_counts_28 rfl ?_
    refine GX12_183 eX12_counts_29 rfl ?_
    refine k_topi (nI dn) hdn ?_
    refine k_icmp_geN 62 eX12_counts_32 (by decide) (by omega) (by omega) (fun c_32 => by exfalso; omega) (fun c_32 => ?_)
    refine k_iload_n eX12_counts_35 rfl ?_
    refine k_ifb_eq 54 eX12_counts_36 (by decide) (fun c_36 => ?_) (fun c_36 => ?_)
    · refine k_iconst (v := nI 0) eX12_counts_54 (by decide) ?_
      refine k_istore_n (L2 := [_, _, _, _, _]) eX12_counts_55 (Nat.le_of_ble_eq_true rfl) rfl ?_
      refine k_iincN (g := 1) (a := j) (L2 := [_, _, _, _, _]) eX12_counts_56 (Nat.le_of_ble_eq_true rfl) rfl rfl ?_
      refine k_goto 26 eX12_counts_59 (by decide) ?_
      first
      | (refine k_loc (L2 := [_, _, _, .int (b2i (pGd (S.2.1 62) x w (j + 1))), _]) (by rw [b2i_f (fun q => c_36 (pGd_s.mp q).1)] <;> rfl) ?_; exact ih (j + 1) (by omega))
      | (refine k_loc (L2 := [_, _, _, .int (b2i (pGd (S.2.1 62) x w (j + 1))), _]) (by rw [b2i_f (fun q => (pGd_s.mp q).2 c_47)] <;> rfl) ?_; exact ih (j + 1) (by omega))
      | (refine k_loc (L2 := [_, _, _, .int (b2i (pGd (S.2.1 62) x w (j + 1))), _]) (by rw [b2i_t (pGd_s.mpr ⟨c_36, c_47⟩)] <;> rfl) ?_; exact ih (j + 1) (by omega))
    refine k_aload_n eX12_counts_39 rfl ?_
    refine GX12_41 eX12_counts_40 rfl ?_
    refine k_iload eX12_counts_43 rfl ?_
    refine k_ialdN (j := j) eX12_counts_45 (ar62 _) (by omega) (Nat.le_of_ble_eq_true rfl) ?_
    refine k_iload_n eX12_counts_46 rfl ?_
    refine k_icmp_eq 54 eX12_counts_47 (by decide) (fun c_47 => ?_) (fun c_47 => ?_)
    · refine k_iconst (v := nI 0) eX12_counts_54 (by decide) ?_
      refine k_istore_n (L2 := [_, _, _, _, _]) eX12_counts_55 (Nat.le_of_ble_eq_true rfl) rfl ?_
      refine k_iincN (g := 1) (a := j) (L2 := [_, _, _, _, _]) eX12_counts_56 (Nat.le_of_ble_eq_true rfl) rfl rfl ?_
      refine k_goto 26 eX12_counts_59 (by decide) ?_
      first
      | (refine k_loc (L2 := [_, _, _, .int (b2i (pGd (S.2.1 62) x w (j + 1))), _]) (by rw [b2i_f (fun q => c_36 (pGd_s.mp q).1)] <;> rfl) ?_; exact ih (j + 1) (by omega))
      | (refine k_loc (L2 := [_, _, _, .int (b2i (pGd (S.2.1 62) x w (j + 1))), _]) (by rw [b2i_f (fun q => (pGd_s.mp q).2 c_47)] <;> rfl) ?_; exact ih (j + 1) (by omega))
      | (refine k_loc (L2 := [_, _, _, .int (b2i (pGd (S.2.1 62) x w (j + 1))), _]) (by rw [b2i_t (pGd_s.mpr ⟨c_36, c_47⟩)] <;> rfl) ?_; exact ih (j + 1) (by omega))
    refine k_iconst (v := nI 1) eX12_counts_50 (by decide) ?_
    refine k_goto 55 eX12_counts_51 (by decide) ?_
    refine k_istore_n (L2 := [_, _, _, _, _]) eX12_counts_55 (Nat.le_of_ble_eq_true rfl) rfl ?_
    refine k_iincN (g := 1) (a := j) (L2 := [_, _, _, _, _]) eX12_counts_56 (Nat.le_of_ble_eq_true rfl) rfl rfl ?_
    refine k_goto 26 eX12_counts_59 (by decide) ?_
    first
    | (refine k_loc (L2 := [_, _, _, .int (b2i (pGd (S.2.1 62) x w (j + 1))), _]) (by rw [b2i_f (fun q => c_36 (pGd_s.mp q).1)] <;> rfl) ?_; exact ih (j + 1) (by omega))
    | (refine k_loc (L2 := [_, _, _, .int (b2i (pGd (S.2.1 62) x w (j + 1))), _]) (by rw [b2i_f (fun q => (pGd_s.mp q).2 c_47)] <;> rfl) ?_; exact ih (j + 1) (by omega))
    | (refine k_loc (L2 := [_, _, _, .int (b2i (pGd (S.2.1 62) x w (j + 1))), _]) (by rw [b2i_t (pGd_s.mpr ⟨c_36, c_47⟩)] <;> rfl) ?_; exact ih (j + 1) (by omega))
set_option maxHeartbeats 400000 in
theorem pX12_counts {S : k_S} {dn : Nat} (hdn : S.1 2611 = nI dn) (hd4 : dn ≤ 4) (x w : Int32) : Sp 2 0 0 MX12_counts [.ref 52, .int (x), .int (w)] (hp S) (Rt (some (.int (aCnt (S.2.1 62) dn x w))) (hp (mCntS S dn x w))) := by
  refine Sp_of (by decide +kernel) (Nat.le_of_ble_eq_true rfl) ?_
  show AW none MX12_counts 2 0 0 0 [.ref 52, .int (x), .int (w), .null, .null] [] (hp S) _
  refine k_iload_n eX12_counts_0 rfl ?_
  refine cS1 (M' := MX12_isDay) eX12_counts_1 mX12_131 wX12_isDay sX12_isDay rfl (pX12_isDay (x)) (by decide) (Nat.le_of_ble_eq_true rfl) ?_
  refine k_ifb_eq 21 eX12_counts_4 (by decide) (fun c_4 => ?_) (fun c_4 => ?_)
  · refine k_iconst (v := nI 0) eX12_counts_21 (by decide) ?_
    refine k_istore_n (L2 := [_, _, _, _, _]) eX12_counts_22 (Nat.le_of_ble_eq_true rfl) rfl ?_
    refine k_iconst (v := nI 0) eX12_counts_23 (by decide) ?_
    refine k_istore (L2 := [_, _, _, _, _]) eX12_counts_24 (Nat.le_of_ble_eq_true rfl) rfl ?_
    first
    | (refine k_loc (L2 := [_, _, _, .int (b2i (pGd (S.2.1 62) x w 0)), .int (nI 0)]) (by rw [b2i_t (show pGd (S.2.1 62) x w 0 from ⟨c_4, c_14, (fun q => by cases q)⟩)] <;> rfl) ?_)
    | (refine k_loc (L2 := [_, _, _, .int (b2i (pGd (S.2.1 62) x w 0)), .int (nI 0)]) (by rw [b2i_f (fun q : pGd (S.2.1 62) x w 0 => by first | exact c_4 q.1 | exact c_14 q.2.1)] <;> rfl) ?_)
    refine lX12_counts (by decide) hdn hd4 x w ?_ dn 0 (by omega)
    refine k_iload_n eX12_counts_62 rfl ?_
    refine k_ifb_ne 68 eX12_counts_63 (by decide) (fun c_63 => ?_) (fun c_63 => ?_)
    · refine k_aload_n eX12_counts_68 rfl ?_
      refine GX12_183 eX12_counts_69 rfl ?_
      refine k_topi (nI dn) hdn ?_
      refine k_iconst (v := nI 4) eX12_counts_72 (by decide) ?_
      refine k_icmp_neN 79 eX12_counts_73 (by decide) (by omega) (by omega) (fun c_73 => ?_) (fun c_73 => ?_)
      · refine k_aload_n eX12_counts_79 rfl ?_
        refine GX12_41 eX12_counts_80 rfl ?_
        refine k_aload_n eX12_counts_83 rfl ?_
        refine GX12_183 eX12_counts_84 rfl ?_
        refine k_topi (nI dn) hdn ?_
        refine k_iload_n eX12_counts_87 rfl ?_
        refine k_iastN (j := dn) eX12_counts_88 (ar62 _) (by omega) (Nat.le_of_ble_eq_true rfl) (as62 _ _) ?_
        refine k_aload_n eX12_counts_89 rfl ?_
        refine GX12_44 eX12_counts_90 rfl ?_
        refine k_aload_n eX12_counts_93 rfl ?_
        refine GX12_183 eX12_counts_94 rfl ?_
        refine k_topi (nI dn) hdn ?_
        refine k_iload_n eX12_counts_97 rfl ?_
        refine k_iastN (j := dn) eX12_counts_98 (ar63 _) (by omega) (Nat.le_of_ble_eq_true rfl) (as63 _ _) ?_
        refine k_aload_n eX12_counts_99 rfl ?_
        refine k_dup eX12_counts_100 rfl ?_
        refine GX12_183 eX12_counts_101 rfl ?_
        refine k_topi (nI dn) hdn ?_
        refine k_iconst (v := nI 1) eX12_counts_104 (by decide) ?_
        refine k_iaddN eX12_counts_105 ?_
        refine PX12_183 eX12_counts_106 rfl ?_
        refine k_aload_n eX12_counts_109 rfl ?_
        refine GX12_183 eX12_counts_110 rfl ?_
        refine k_topi (nI (dn + 1)) rfl ?_
        refine k_ireturn eX12_counts_113 rfl rfl ?_
        exact ⟨by rw [aCnt, if_pos c_63, fulV, if_neg c_73] <;> rfl, by rw [mCntS, if_pos c_63, if_neg c_73] <;> rfl⟩
      refine k_bipush (v := (-3)) eX12_counts_76 (by decide) ?_
      refine k_ireturn eX12_counts_78 rfl rfl ?_
      exact ⟨by rw [aCnt, if_pos c_63, fulV, if_pos c_73], by rw [mCntS, if_pos c_63, if_pos c_73]⟩
    refine k_iconst (v := (-1)) eX12_counts_66 (by decide) ?_
    refine k_ireturn eX12_counts_67 rfl rfl ?_
    exact ⟨by rw [aCnt, if_neg c_63], by rw [mCntS, if_neg c_63]⟩
  refine k_iload_n eX12_counts_7 rfl ?_
  refine k_iconst (v := nI 1) eX12_counts_8 (by decide) ?_
  refine k_bipush (v := nI 9) eX12_counts_9 (by decide) ?_
  refine cS1 (M' := MX12_in) eX12_counts_11 mX12_120 wX12_in sX12_in rfl (pX12_in (w) (nI 1) (nI 9)) (by decide) (Nat.le_of_ble_eq_true rfl) ?_
  refine k_ifb_eq 21 eX12_counts_14 (by decide) (fun c_14 => ?_) (fun c_14 => ?_)
  · refine k_iconst (v := nI 0) eX12_counts_21 (by decide) ?_
    refine k_istore_n (L2 := [_, _, _, _, _]) eX12_counts_22 (Nat.le_of_ble_eq_true rfl) rfl ?_
    refine k_iconst (v := nI 0) eX12_counts_23 (by decide) ?_
    refine k_istore (L2 := [_, _, _, _, _]) eX12_counts_24 (Nat.le_of_ble_eq_true rfl) rfl ?_
    first
    | (refine k_loc (L2 := [_, _, _, .int (b2i (pGd (S.2.1 62) x w 0)), .int (nI 0)]) (by rw [b2i_t (show pGd (S.2.1 62) x w 0 from ⟨c_4, c_14, (fun q => by cases q)⟩)] <;> rfl) ?_)
    | (refine k_loc (L2 := [_, _, _, .int (b2i (pGd (S.2.1 62) x w 0)), .int (nI 0)]) (by rw [b2i_f (fun q : pGd (S.2.1 62) x w 0 => by first | exact c_4 q.1 | exact c_14 q.2.1)] <;> rfl) ?_)
    refine lX12_counts (by decide) hdn hd4 x w ?_ dn 0 (by omega)
    refine k_iload_n eX12_counts_62 rfl ?_
    refine k_ifb_ne 68 eX12_counts_63 (by decide) (fun c_63 => ?_) (fun c_63 => ?_)
    · refine k_aload_n eX12_counts_68 rfl ?_
      refine GX12_183 eX12_counts_69 rfl ?_
      refine k_topi (nI dn) hdn ?_
      refine k_iconst (v := nI 4) eX12_counts_72 (by decide) ?_
      refine k_icmp_neN 79 eX12_counts_73 (by decide) (by omega) (by omega) (fun c_73 => ?_) (fun c_73 => ?_)
      · refine k_aload_n eX12_counts_79 rfl ?_
        refine GX12_41 eX12_counts_80 rfl ?_
        refine k_aload_n eX12_counts_83 rfl ?_
        refine GX12_183 eX12_counts_84 rfl ?_
        refine k_topi (nI dn) hdn ?_
        refine k_iload_n eX12_counts_87 rfl ?_
        refine k_iastN (j := dn) eX12_counts_88 (ar62 _) (by omega) (Nat.le_of_ble_eq_true rfl) (as62 _ _) ?_
        refine k_aload_n eX12_counts_89 rfl ?_
        refine GX12_44 eX12_counts_90 rfl ?_
        refine k_aload_n eX12_counts_93 rfl ?_
        refine GX12_183 eX12_counts_94 rfl ?_
        refine k_topi (nI dn) hdn ?_
        refine k_iload_n eX12_counts_97 rfl ?_
        refine k_iastN (j := dn) eX12_counts_98 (ar63 _) (by omega) (Nat.le_of_ble_eq_true rfl) (as63 _ _) ?_
        refine k_aload_n eX12_counts_99 rfl ?_
        refine k_dup eX12_counts_100 rfl ?_
        refine GX12_183 eX12_counts_101 rfl ?_
        refine k_topi (nI dn) hdn ?_
        refine k_iconst (v := nI 1) eX12_counts_104 (by decide) ?_
        refine k_iaddN eX12_counts_105 ?_
        refine PX12_183 eX12_counts_106 rfl ?_
        refine k_aload_n eX12_counts_109 rfl ?_
        refine GX12_183 eX12_counts_110 rfl ?_
        refine k_topi (nI (dn + 1)) rfl ?_
        refine k_ireturn eX12_counts_113 rfl rfl ?_
        exact ⟨by rw [aCnt, if_pos c_63, fulV, if_neg c_73] <;> rfl, by rw [mCntS, if_pos c_63, if_neg c_73] <;> rfl⟩
      refine k_bipush (v := (-3)) eX12_counts_76 (by decide) ?_
      refine k_ireturn eX12_counts_78 rfl rfl ?_
      exact ⟨by rw [aCnt, if_pos c_63, fulV, if_pos c_73], by rw [mCntS, if_pos c_63, if_pos c_73]⟩
    refine k_iconst (v := (-1)) eX12_counts_66 (by decide) ?_
    refine k_ireturn eX12_counts_67 rfl rfl ?_
    exact ⟨by rw [aCnt, if_neg c_63], by rw [mCntS, if_neg c_63]⟩
  refine k_iconst (v := nI 1) eX12_counts_17 (by decide) ?_
  refine k_goto 22 eX12_counts_18 (by decide) ?_
  refine k_istore_n (L2 := [_, _, _, _, _]) eX12_counts_22 (Nat.le_of_ble_eq_true rfl) rfl ?_
  refine k_iconst (v := nI 0) eX12_counts_23 (by decide) ?_
  refine k_istore (L2 := [_, _, _, _, _]) eX12_counts_24 (Nat.le_of_ble_eq_true rfl) rfl ?_
  first
  | (refine k_loc (L2 := [_, _, _, .int (b2i (pGd (S.2.1 62) x w 0)), .int (nI 0)]) (by rw [b2i_t (show pGd (S.2.1 62) x w 0 from ⟨c_4, c_14, (fun q => by cases q)⟩)] <;> rfl) ?_)
  | (refine k_loc (L2 := [_, _, _, .int (b2i (pGd (S.2.1 62) x w 0)), .int (nI 0)]) (by rw [b2i_f (fun q : pGd (S.2.1 62) x w 0 => by first | exact c_4 q.1 | exact c_14 q.2.1)] <;> rfl) ?_)
  refine lX12_counts (by decide) hdn hd4 x w ?_ dn 0 (by omega)
  refine k_iload_n eX12_counts_62 rfl ?_
  refine k_ifb_ne 68 eX12_counts_63 (by decide) (fun c_63 => ?_) (fun c_63 => ?_)
  · refine k_aload_n eX12_counts_68 rfl ?_
    refine GX12_183 eX12_counts_69 rfl ?_
    refine k_topi (nI dn) hdn ?_
    refine k_iconst (v := nI 4) eX12_counts_72 (by decide) ?_
    refine k_icmp_neN 79 eX12_counts_73 (by decide) (by omega) (by omega) (fun c_73 => ?_) (fun c_73 => ?_)
    · refine k_aload_n eX12_counts_79 rfl ?_
      refine GX12_41 eX12_counts_80 rfl ?_
      refine k_aload_n eX12_counts_83 rfl ?_
      refine GX12_183 eX12_counts_84 rfl ?_
      refine k_topi (nI dn) hdn ?_
      refine k_iload_n eX12_counts_87 rfl ?_
      refine k_iastN (j := dn) eX12_counts_88 (ar62 _) (by omega) (Nat.le_of_ble_eq_true rfl) (as62 _ _) ?_
      refine k_aload_n eX12_counts_89 rfl ?_
      refine GX12_44 eX12_counts_90 rfl ?_
      refine k_aload_n eX12_counts_93 rfl ?_
      refine GX12_183 eX12_counts_94 rfl ?_
      refine k_topi (nI dn) hdn ?_
      refine k_iload_n eX12_counts_97 rfl ?_
      refine k_iastN (j := dn) eX12_counts_98 (ar63 _) (by omega) (Nat.le_of_ble_eq_true rfl) (as63 _ _) ?_
      refine k_aload_n eX12_counts_99 rfl ?_
      refine k_dup eX12_counts_100 rfl ?_
      refine GX12_183 eX12_counts_101 rfl ?_
      refine k_topi (nI dn) hdn ?_
      refine k_iconst (v := nI 1) eX12_counts_104 (by decide) ?_
      refine k_iaddN eX12_counts_105 ?_
      refine PX12_183 eX12_counts_106 rfl ?_
      refine k_aload_n eX12_counts_109 rfl ?_
      refine GX12_183 eX12_counts_110 rfl ?_
      refine k_topi (nI (dn + 1)) rfl ?_
      refine k_ireturn eX12_counts_113 rfl rfl ?_
      exact ⟨by rw [aCnt, if_pos c_63, fulV, if_neg c_73] <;> rfl, by rw [mCntS, if_pos c_63, if_neg c_73] <;> rfl⟩
    refine k_bipush (v := (-3)) eX12_counts_76 (by decide) ?_
    refine k_ireturn eX12_counts_78 rfl rfl ?_
    exact ⟨by rw [aCnt, if_pos c_63, fulV, if_pos c_73], by rw [mCntS, if_pos c_63, if_pos c_73]⟩
  refine k_iconst (v := (-1)) eX12_counts_66 (by decide) ?_
  refine k_ireturn eX12_counts_67 rfl rfl ?_
  exact ⟨by rw [aCnt, if_neg c_63], by rw [mCntS, if_neg c_63]⟩
