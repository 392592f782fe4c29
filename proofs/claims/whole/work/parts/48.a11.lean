theorem subS (a j : Nat) : nI a - nI (j + 1) = nI a - nI j + (-1) := by
  rw [← nI_add, Int32.sub_eq_add_neg, Int32.sub_eq_add_neg, Int32.neg_add, Int32.add_assoc, Int32.sub_eq_add_neg (-nI j) (nI 1), show -nI 1 = (-1 : Int32) from by decide]
/-- resting from behind: gained, the most, the day, k days looked at; L one more than the last day that counts -/
def tpS (V : k_V) (dn r L m0 : Nat) : Nat → Int32 × Int32 × Nat
  | 0 => (nI 0, nI 0, m0)
  | k + 1 => if (tpS V dn r L m0 k).2.1 < (tpS V dn r L m0 k).1 - wor V dn r (pw V (L - 1 - k)) (L - 1 - k) then ((tpS V dn r L m0 k).1 - wor V dn r (pw V (L - 1 - k)) (L - 1 - k), (tpS V dn r L m0 k).1 - wor V dn r (pw V (L - 1 - k)) (L - 1 - k), L - 1 - k)
    else ((tpS V dn r L m0 k).1 - wor V dn r (pw V (L - 1 - k)) (L - 1 - k), (tpS V dn r L m0 k).2.1, (tpS V dn r L m0 k).2.2)
def tpE (V : k_V) (dn r d : Nat) : Int32 × Int32 × Nat := tpS V dn r (lsN V dn) (max d (lsN V dn - 1 + 1)) (lsN V dn - d)
def aTap (V : k_V) (dn : Nat) (kr x w : Int32) : Int32 := if pRD kr x ∧ pIn w (nI 0) (nI 1) then (if lsN V dn = 0 then -2 else if w = 0 then nI (tpE V dn (rrN x) (ddN x)).2.2 else (tpE V dn (rrN x) (ddN x)).2.1) else -2000000000
set_option maxHeartbeats 400000 in
theorem lX11_taper {d : Nat} {Po : Option Value → k_H → Prop} (hdd : 4 ≤ d) {S : k_S} {V : k_V} (hV : vC S = V) {dn : Nat} (hdn : S.1 1302 = nI dn) (hcd : CntOk V dn) (hpl : PlanOk V) {z m0 : Nat} (hz31 : z < 2 ^ 31) (hzr : z / 1000 < 5) (hzd : z % 1000 < 120) (hl0 : 0 < lsN V dn) (hl120 : lsN V dn ≤ 120) (w : Int32) (kx : AW none MX11_taper d 0 0 116 [.ref 0, .int (nI z), .int (w), .int (nI (lsN V dn - 1)), .int (nI ((tpS V dn (z / 1000) (lsN V dn) m0 ((lsN V dn - z % 1000))).2.2)), .int ((tpS V dn (z / 1000) (lsN V dn) m0 ((lsN V dn - z % 1000))).1), .int ((tpS V dn (z / 1000) (lsN V dn) m0 ((lsN V dn - z % 1000))).2.1), .int ((nI (lsN V dn - 1) - nI ((lsN V dn - z % 1000))))] [] (hp S) Po) : ∀ (n j : Nat), j + n = (lsN V dn - z % 1000) → AW none MX11_taper d 0 0 57 [.ref 0, .int (nI z), .int (w), .int (nI (lsN V dn - 1)), .int (nI ((tpS V dn (z / 1000) (lsN V dn) m0 j).2.2)), .int ((tpS V dn (z / 1000) (lsN V dn) m0 j).1), .int ((tpS V dn (z / 1000) (lsN V dn) m0 j).2.1), .int ((nI (lsN V dn - 1) - nI j))] [] (hp S) Po := by
  intro n
  induction n with
  | zero =>
    intro j hj
    rw [show j = (lsN V dn - z % 1000) by omega]
    refine k_iload eX11_taper_57 rfl ?_
    refine k_iload_n eX11_taper_59 rfl ?_
    refine k_sipush (v := nI 1000) eX11_taper_60 (by decide) ?_
    refine k_iremN eX11_taper_63 (by omega) (by omega) (by omega) ?_
    refine k_icmp_lt 116 eX11_taper_64 (by decide) (fun c_64 => ?_) (fun c_64 => by exact absurd ((sub_ltN (by omega) (by omega) (by omega)).mpr (by omega)) c_64)
    exact kx
  | succ n ih =>
    intro j hj
    refine k_iload eX11_taper_57 rfl ?_
    refine k_iload_n eX11_taper_59 rfl ?_
    refine k_sipush (v := nI 1000) eX11_taper_60 (by decide) ?_
    refine k_iremN eX11_taper_63 (by omega) (by omega) (by omega) ?_
    refine k_icmp_lt 116 eX11_taper_64 (by decide) (fun c_64 => by exact absurd ((sub_ltN (by omega) (by omega) (by omega)).mp c_64) (by omega)) (fun c_64 => ?_)
    refine k_loc (L2 := [_, _, _, _, _, _, _, .int (nI (lsN V dn - 1 - j))]) (by rw [pk_sub (show j ≤ lsN V dn - 1 by omega)]) ?_
    have hpw := hpl.lt (d := lsN V dn - 1 - j) (by omega)
    refine k_iload eX11_taper_67 rfl ?_
    refine k_aload_n eX11_taper_69 rfl ?_
    refine GX11_83 eX11_taper_70 rfl ?_
    refine k_iload_n eX11_taper_73 rfl ?_
    refine k_sipush (v := nI 1000) eX11_taper_74 (by decide) ?_
    refine k_idivN eX11_taper_77 (by omega) (by omega) (by omega) ?_
    refine k_aload_n eX11_taper_78 rfl ?_
    refine GX11_75 eX11_taper_79 rfl ?_
    refine k_iload eX11_taper_82 rfl ?_
    refine cV1 (M' := MX2_at) eX11_taper_84 mX11_161 wX2_at vX2_at ⟨_, _, _, rfl, rfl, rfl⟩ rfl (pX2_at (S := S) (j := (lsN V dn - 1 - j)) (by omega)) (by omega) (Nat.le_of_ble_eq_true rfl) ?_
    refine k_topi (nI (pw V (lsN V dn - 1 - j))) (vpl hV hpl (by omega)) ?_
    refine k_iload eX11_taper_87 rfl ?_
    refine cV1 (M' := MX3_valueOf) eX11_taper_89 mX11_187 wX3_valueOf vX3_valueOf ⟨_, _, _, rfl, rfl, rfl⟩ rfl (pX3_valueOf (S := S) (V := V) (dn := dn) (r := (z / 1000)) (w := (pw V (lsN V dn - 1 - j))) (dd := (lsN V dn - 1 - j)) hV hdn hcd (by omega) (by omega) (by omega)) (by omega) (Nat.le_of_ble_eq_true rfl) ?_
    refine k_isub eX11_taper_92 ?_
    refine k_istore (L2 := [_, _, _, _, _, _, _, _]) eX11_taper_93 (Nat.le_of_ble_eq_true rfl) rfl ?_
    refine k_iload eX11_taper_95 rfl ?_
    refine k_iload eX11_taper_97 rfl ?_
    refine k_icmp_le 110 eX11_taper_99 (by decide) (fun c_99 => ?_) (fun c_99 => ?_)
    · refine k_loc (L2 := [_, _, _, _, _, _, _, .int (nI (lsN V dn - 1) - nI j)]) (by rw [pk_sub (show j ≤ lsN V dn - 1 by omega)]) ?_
      refine k_iinc (v := (nI (lsN V dn - 1) - nI j) + (-1)) (L2 := [_, _, _, _, _, _, _, _]) eX11_taper_110 (Nat.le_of_ble_eq_true rfl) rfl rfl rfl ?_
      refine k_goto 57 eX11_taper_113 (by decide) ?_
      have q := ih (j + 1) (by omega)
      rw [tpS, subS] at q
      first | (rw [if_neg (Int32.not_lt.mpr c_99)] at q; exact q) | (rw [if_pos (Int32.not_le.mp c_99)] at q; exact q)
    refine k_iload eX11_taper_102 rfl ?_
    refine k_istore (L2 := [_, _, _, _, _, _, _, _]) eX11_taper_104 (Nat.le_of_ble_eq_true rfl) rfl ?_
    refine k_iload eX11_taper_106 rfl ?_
    refine k_istore (L2 := [_, _, _, _, _, _, _, _]) eX11_taper_108 (Nat.le_of_ble_eq_true rfl) rfl ?_
    refine k_loc (L2 := [_, _, _, _, _, _, _, .int (nI (lsN V dn - 1) - nI j)]) (by rw [pk_sub (show j ≤ lsN V dn - 1 by omega)]) ?_
    refine k_iinc (v := (nI (lsN V dn - 1) - nI j) + (-1)) (L2 := [_, _, _, _, _, _, _, _]) eX11_taper_110 (Nat.le_of_ble_eq_true rfl) rfl rfl rfl ?_
    refine k_goto 57 eX11_taper_113 (by decide) ?_
    have q := ih (j + 1) (by omega)
    rw [tpS, subS] at q
    first | (rw [if_neg (Int32.not_lt.mpr c_99)] at q; exact q) | (rw [if_pos (Int32.not_le.mp c_99)] at q; exact q)
set_option maxHeartbeats 400000 in
theorem pX11_taper {S : k_S} {V : k_V} (hV : vC S = V) {dn : Nat} (hdn : S.1 1302 = nI dn) (hcd : CntOk V dn) (hpl : PlanOk V) {rn : Nat} (hrn : S.1 1003 = nI rn) (hrn5 : rn ≤ 5) (x w : Int32) : Sp 4 0 0 MX11_taper [.ref 0, .int (x), .int (w)] (hp S) (Rt (some (.int (aTap V dn (S.1 1003) x w))) (hp S)) := by
  refine Sp_of (by decide +kernel) (Nat.le_of_ble_eq_true rfl) ?_
  show AW none MX11_taper 4 0 0 0 [.ref 0, .int (x), .int (w), .null, .null, .null, .null, .null] [] (hp S) _
  refine k_aload_n eX11_taper_0 rfl ?_
  refine k_iload_n eX11_taper_1 rfl ?_
  refine cV1 (M' := MX11_isRunnersDay) eX11_taper_2 mX11_165 wX11_isRunnersDay vX11_isRunnersDay ⟨_, _, _, rfl, rfl, rfl⟩ rfl (pX11_isRunnersDay (S := S) (x)) (by decide) (Nat.le_of_ble_eq_true rfl) ?_
  refine k_ifb_eq 17 eX11_taper_5 (by decide) (fun c_5 => ?_) (fun c_5 => ?_)
  · refine k_ldc eX11_taper_17 kX11_168 rfl ?_
    refine k_ireturn eX11_taper_19 rfl rfl ?_
    exact ⟨by rw [aTap, if_neg (fun q => by first | exact c_5 q.1 | exact c_14 q.2)], rfl⟩
  refine k_iload_n eX11_taper_8 rfl ?_
  refine k_iconst (v := nI 0) eX11_taper_9 (by decide) ?_
  refine k_iconst (v := nI 1) eX11_taper_10 (by decide) ?_
  refine cS1 (M' := MX11_within) eX11_taper_11 mX11_114 wX11_within sX11_within rfl (pX11_within (w) (nI 0) (nI 1)) (by decide) (Nat.le_of_ble_eq_true rfl) ?_
  refine k_ifb_ne 20 eX11_taper_14 (by decide) (fun c_14 => ?_) (fun c_14 => ?_)
  · obtain ⟨z, hz31, rfl, hzr, hzd⟩ := pRD_ex c_5 hrn hrn5
    refine k_aload_n eX11_taper_20 rfl ?_
    refine GX11_79 eX11_taper_21 rfl ?_
    refine cV1 (M' := MX5_last) eX11_taper_24 mX11_205 wX5_last vX5_last ⟨_, _, _, rfl, rfl, rfl⟩ rfl (pX5_last (S := S) (dn := dn) hdn hcd.1) (by decide) (Nat.le_of_ble_eq_true rfl) ?_
    refine k_topi ((lstD (V 7) dn)) (by rw [show (S).2.1 27 = V 7 from congrFun hV 7]) ?_
    refine k_istore_n (L2 := [_, _, _, _, _, _, _, _]) eX11_taper_27 (Nat.le_of_ble_eq_true rfl) rfl ?_
    refine k_iload_n eX11_taper_28 rfl ?_
    refine k_if_ge 35 eX11_taper_29 (by decide) (fun c_29 => ?_) (fun c_29 => ?_)
    · have hl0 : 0 < lsN V dn := (lst_neg hcd).mp c_29
      have hl120 := lsN_le hcd dn (Nat.le_refl _)
      refine k_loc (L2 := [_, _, _, .int (nI (lsN V dn - 1)), _, _, _, _]) (by rw [lstD_at hcd hl0]) ?_
      refine k_iload_n eX11_taper_35 rfl ?_
      refine k_sipush (v := nI 1000) eX11_taper_36 (by decide) ?_
      refine k_iremN eX11_taper_39 (by omega) (by omega) (by omega) ?_
      refine k_iload_n eX11_taper_40 rfl ?_
      refine k_iconst (v := nI 1) eX11_taper_41 (by decide) ?_
      refine k_iaddN eX11_taper_42 ?_
      refine k_mmax eX11_taper_43 mX11_208 (by decide) (Nat.le_of_ble_eq_true rfl) ?_
      refine k_topi (nI (max (z % 1000) (lsN V dn - 1 + 1))) (mx_nI (by omega) (by omega)) ?_
      refine k_istore (L2 := [_, _, _, _, _, _, _, _]) eX11_taper_46 (Nat.le_of_ble_eq_true rfl) rfl ?_
      refine k_iconst (v := nI 0) eX11_taper_48 (by decide) ?_
      refine k_istore (L2 := [_, _, _, _, _, _, _, _]) eX11_taper_49 (Nat.le_of_ble_eq_true rfl) rfl ?_
      refine k_iconst (v := nI 0) eX11_taper_51 (by decide) ?_
      refine k_istore (L2 := [_, _, _, _, _, _, _, _]) eX11_taper_52 (Nat.le_of_ble_eq_true rfl) rfl ?_
      refine k_iload_n eX11_taper_54 rfl ?_
      refine k_istore (L2 := [_, _, _, _, _, _, _, _]) eX11_taper_55 (Nat.le_of_ble_eq_true rfl) rfl ?_
      refine k_loc (L2 := [_, _, _, _, _, _, _, .int (nI (lsN V dn - 1) - nI 0)]) (by rw [pk_sub (Nat.zero_le _)]; rfl) ?_
      refine lX11_taper (by decide) hV hdn hcd hpl (m0 := max (z % 1000) (lsN V dn - 1 + 1)) hz31 (by omega) hzd hl0 hl120 w ?_ (lsN V dn - z % 1000) 0 (by omega)
      refine k_iload_n eX11_taper_116 rfl ?_
      refine k_if_ne 125 eX11_taper_117 (by decide) (fun c_117 => ?_) (fun c_117 => ?_)
      · refine k_iload eX11_taper_125 rfl ?_
        refine k_ireturn eX11_taper_127 rfl rfl ?_
        exact ⟨by rw [aTap, if_pos ⟨c_5, c_14⟩, if_neg (by omega), rrN_nI hz31, ddN_nI hz31, if_neg c_117]; rfl, rfl⟩
      refine k_iload eX11_taper_120 rfl ?_
      refine k_goto 127 eX11_taper_122 (by decide) ?_
      refine k_ireturn eX11_taper_127 rfl rfl ?_
      exact ⟨by rw [aTap, if_pos ⟨c_5, c_14⟩, if_neg (by omega), rrN_nI hz31, ddN_nI hz31, if_pos c_117]; rfl, rfl⟩
    refine k_bipush (v := (-2)) eX11_taper_32 (by decide) ?_
    refine k_ireturn eX11_taper_34 rfl rfl ?_
    have hl0 : lsN V dn = 0 := Nat.le_zero.mp (Nat.not_lt.mp (fun q => c_29 ((lst_neg hcd).mpr q)))
    exact ⟨by rw [aTap, if_pos ⟨c_5, c_14⟩, if_pos hl0], rfl⟩
  refine k_ldc eX11_taper_17 kX11_168 rfl ?_
  refine k_ireturn eX11_taper_19 rfl rfl ?_
  exact ⟨by rw [aTap, if_neg (fun q => by first | exact c_5 q.1 | exact c_14 q.2)], rfl⟩
