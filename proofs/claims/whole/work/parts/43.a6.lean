theorem lst_neg {V : k_V} {dn : Nat} (h : CntOk V dn) : (0 ≤ lstD (V 7) dn) ↔ 0 < lsN V dn := by
  have hl := lsN_le h dn (Nat.le_refl _)
  rw [lstD_eq h dn (Nat.le_refl _)]
  by_cases q : lsN V dn = 0
  · rw [if_pos q, q]; decide
  · rw [if_neg q, Int32.le_iff_toInt_le, nI_toInt (by omega), show (0 : Int32).toInt = 0 from by decide]; omega
theorem pYrs_ex {kr r nw : Int32} {rn : Nat} (h : pYrs kr r nw) (hk : kr = nI rn) (hrn : rn ≤ 5) : ∃ u z, u < rn ∧ z < 2 ^ 31 ∧ r = nI u ∧ nw = nI z ∧ 1 ≤ z / 10 ∧ z / 10 ≤ 50 ∧ z % 10 ≤ 1 := by
  obtain ⟨h1, h2, h3, h4⟩ := h
  obtain ⟨u, hu, rfl⟩ := pW_ex h1 hk (by omega)
  obtain ⟨z, hz, rfl⟩ := k_nneg h2
  rw [(dmN hz (by decide) (by decide)).1] at h3
  rw [(dmN hz (by decide) (by decide)).2] at h4
  have e1 := Int32.le_iff_toInt_le.mp h3.1
  have e2 := Int32.le_iff_toInt_le.mp h3.2
  have e3 := Int32.le_iff_toInt_le.mp h4.2
  rw [nI_toInt (by omega), nI_toInt (by omega)] at e1 e2 e3
  exact ⟨u, z, hu, hz, rfl, rfl, by omega, by omega, by omega⟩
set_option maxHeartbeats 400000 in
theorem pX11_years {S : k_S} {V : k_V} (hV : vC S = V) {dn : Nat} (hdn : S.1 1302 = nI dn) (hcd : CntOk V dn) (hpl : PlanOk V) {rn : Nat} (hrn : S.1 1003 = nI rn) (hrn5 : rn ≤ 5) {T : List Int32} (hT : TxOk S 1951 40 T) {lo : Nat} (hlo : S.1 1907 = nI lo) (hlo2 : lo ≤ 60) (r s y : Int32) : Sp 6 0 0 MX11_years [.ref 0, .int (r), .int (s), .int (y)] (hp S) (Rx (some (.int (aYrs V dn T lo (S.1 1003) r s y))) (fun S' => Frm [1953, 2103, 2253] [41, 44, 47, 48, 49, 50, 51] [] S S')) := by
  refine Sp_of (by decide +kernel) (Nat.le_of_ble_eq_true rfl) ?_
  show AW none MX11_years 6 0 0 0 [.ref 0, .int (r), .int (s), .int (y)] [] (hp S) _
  refine k_aload_n eX11_years_0 rfl ?_
  refine GX11_71 eX11_years_1 rfl ?_
  refine k_iload_n eX11_years_4 rfl ?_
  refine cV1 (M' := MX8_has) eX11_years_5 mX11_175 wX8_has vX8_has ⟨_, _, _, rfl, rfl, rfl⟩ rfl (pX8_has (S := S) (r)) (by decide) (Nat.le_of_ble_eq_true rfl) ?_
  refine k_ifb_eq 40 eX11_years_8 (by decide) (fun c_8 => ?_) (fun c_8 => ?_)
  · refine k_ldc eX11_years_40 kX11_168 rfl ?_
    refine k_ireturn eX11_years_42 rfl rfl ?_
    exact ⟨by rw [aYrs, if_neg (fun q => by first | exact c_8 q.1 | exact q.2.1 c_12 | exact c_25 q.2.2.1 | exact c_37 q.2.2.2)], _, rfl, Frm.rf S⟩
  refine k_iload_n eX11_years_11 rfl ?_
  refine k_if_lt 40 eX11_years_12 (by decide) (fun c_12 => ?_) (fun c_12 => ?_)
  · refine k_ldc eX11_years_40 kX11_168 rfl ?_
    refine k_ireturn eX11_years_42 rfl rfl ?_
    exact ⟨by rw [aYrs, if_neg (fun q => by first | exact c_8 q.1 | exact q.2.1 c_12 | exact c_25 q.2.2.1 | exact c_37 q.2.2.2)], _, rfl, Frm.rf S⟩
  refine k_iload_n eX11_years_15 rfl ?_
  refine k_bipush (v := nI 10) eX11_years_16 (by decide) ?_
  refine k_idiv eX11_years_18 (by decide) ?_
  refine k_iconst (v := nI 1) eX11_years_19 (by decide) ?_
  refine k_bipush (v := nI 50) eX11_years_20 (by decide) ?_
  refine cS1 (M' := MX11_within) eX11_years_22 mX11_114 wX11_within sX11_within rfl (pX11_within ((y / nI 10)) (nI 1) (nI 50)) (by decide) (Nat.le_of_ble_eq_true rfl) ?_
  refine k_ifb_eq 40 eX11_years_25 (by decide) (fun c_25 => ?_) (fun c_25 => ?_)
  · refine k_ldc eX11_years_40 kX11_168 rfl ?_
    refine k_ireturn eX11_years_42 rfl rfl ?_
    exact ⟨by rw [aYrs, if_neg (fun q => by first | exact c_8 q.1 | exact q.2.1 c_12 | exact c_25 q.2.2.1 | exact c_37 q.2.2.2)], _, rfl, Frm.rf S⟩
  refine k_iload_n eX11_years_28 rfl ?_
  refine k_bipush (v := nI 10) eX11_years_29 (by decide) ?_
  refine k_irem eX11_years_31 (by decide) ?_
  refine k_iconst (v := nI 0) eX11_years_32 (by decide) ?_
  refine k_iconst (v := nI 1) eX11_years_33 (by decide) ?_
  refine cS1 (M' := MX11_within) eX11_years_34 mX11_114 wX11_within sX11_within rfl (pX11_within ((y - y / nI 10 * nI 10)) (nI 0) (nI 1)) (by decide) (Nat.le_of_ble_eq_true rfl) ?_
  refine k_ifb_ne 43 eX11_years_37 (by decide) (fun c_37 => ?_) (fun c_37 => ?_)
  · have hC : pYrs (S.1 1003) r y := ⟨c_8, c_12, c_25, c_37⟩
    obtain ⟨u, z, hu, hz31, rfl, rfl, hz1, hz50, hzb⟩ := pYrs_ex hC hrn hrn5
    refine k_iload_n eX11_years_43 rfl ?_
    refine k_bipush (v := nI 10) eX11_years_44 (by decide) ?_
    refine k_iremN eX11_years_46 (by omega) (by omega) (by omega) ?_
    refine k_iconst (v := nI 1) eX11_years_47 (by decide) ?_
    refine k_icmp_neN 64 eX11_years_48 (by decide) (by omega) (by omega) (fun c_48 => ?_) (fun c_48 => ?_)
    · refine k_aload_n eX11_years_64 rfl ?_
      refine GX11_101 eX11_years_65 rfl ?_
      refine k_iload_n eX11_years_68 rfl ?_
      refine k_iload_n eX11_years_69 rfl ?_
      refine k_iload_n eX11_years_70 rfl ?_
      refine k_bipush (v := nI 10) eX11_years_71 (by decide) ?_
      refine k_idivN eX11_years_73 (by omega) (by omega) (by omega) ?_
      refine k_iload_n eX11_years_74 rfl ?_
      refine k_bipush (v := nI 10) eX11_years_75 (by decide) ?_
      refine k_iremN eX11_years_77 (by omega) (by omega) (by omega) ?_
      refine k_iconst (v := nI 1) eX11_years_78 (by decide) ?_
      refine k_icmp_neN 86 eX11_years_79 (by decide) (by omega) (by omega) (fun c_79 => ?_) (fun c_79 => ?_)
      · refine k_iconst (v := nI 0) eX11_years_86 (by decide) ?_
        refine cVX1 (M' := MX4_inYears) eX11_years_87 mX11_271 wX4_inYears vX4_inYears ⟨_, _, _, rfl, rfl, rfl⟩ rfl (pX4_inYears0 (S := S) (V := V) (dn := dn) (r := u) (n0 := z / 10) (lo := lo) (T := T) hV hdn hcd hpl (by omega) hz1 hz50 s hT hlo hlo2) (by decide) (Nat.le_of_ble_eq_true rfl) ?_
        intro S2 f2
        refine k_ireturn eX11_years_90 rfl rfl ?_
        first | exact absurd c_48 c_79 | exact ⟨by rw [aYrs, if_pos hC, (dmN hz31 (by decide) (by decide)).1, (dmN hz31 (by decide) (by decide)).2, ix_nI (by omega), ix_nI (by omega), if_neg (fun q => c_48 (by have e := congrArg Int32.toInt q; rw [nI_toInt (by omega), nI_toInt (by omega)] at e; omega))], _, rfl, f2⟩
      refine k_iconst (v := nI 1) eX11_years_82 (by decide) ?_
      refine k_goto 87 eX11_years_83 (by decide) ?_
      refine cVX1 (M' := MX4_inYears) eX11_years_87 mX11_271 wX4_inYears vX4_inYears ⟨_, _, _, rfl, rfl, rfl⟩ rfl (pX4_inYears1 (S := S) (V := V) (dn := dn) (r := u) (n0 := z / 10) (lo := lo) (T := T) hV hdn hcd hpl (by omega) hz1 hz50 s hT hlo hlo2) (by decide) (Nat.le_of_ble_eq_true rfl) ?_
      intro S2 f2
      refine k_ireturn eX11_years_90 rfl rfl ?_
      first | exact absurd c_79 c_48 | exact ⟨by rw [aYrs, if_pos hC, (dmN hz31 (by decide) (by decide)).1, (dmN hz31 (by decide) (by decide)).2, ix_nI (by omega), ix_nI (by omega), if_pos (by rw [c_48]), if_neg (by have := (lst_neg hcd).mp c_58; omega)], _, rfl, f2⟩
    refine k_aload_n eX11_years_51 rfl ?_
    refine GX11_79 eX11_years_52 rfl ?_
    have hd4 := hcd.1
    refine cV1 (M' := MX5_last) eX11_years_55 mX11_205 wX5_last vX5_last ⟨_, _, _, rfl, rfl, rfl⟩ rfl (pX5_last (S := S) (dn := dn) hdn hcd.1) (by decide) (Nat.le_of_ble_eq_true rfl) ?_
    refine k_topi ((lstD (V 7) dn)) (by rw [show (S).2.1 27 = V 7 from congrFun hV 7]) ?_
    refine k_if_ge 64 eX11_years_58 (by decide) (fun c_58 => ?_) (fun c_58 => ?_)
    · refine k_aload_n eX11_years_64 rfl ?_
      refine GX11_101 eX11_years_65 rfl ?_
      refine k_iload_n eX11_years_68 rfl ?_
      refine k_iload_n eX11_years_69 rfl ?_
      refine k_iload_n eX11_years_70 rfl ?_
      refine k_bipush (v := nI 10) eX11_years_71 (by decide) ?_
      refine k_idivN eX11_years_73 (by omega) (by omega) (by omega) ?_
      refine k_iload_n eX11_years_74 rfl ?_
      refine k_bipush (v := nI 10) eX11_years_75 (by decide) ?_
      refine k_iremN eX11_years_77 (by omega) (by omega) (by omega) ?_
      refine k_iconst (v := nI 1) eX11_years_78 (by decide) ?_
      refine k_icmp_neN 86 eX11_years_79 (by decide) (by omega) (by omega) (fun c_79 => ?_) (fun c_79 => ?_)
      · refine k_iconst (v := nI 0) eX11_years_86 (by decide) ?_
        refine cVX1 (M' := MX4_inYears) eX11_years_87 mX11_271 wX4_inYears vX4_inYears ⟨_, _, _, rfl, rfl, rfl⟩ rfl (pX4_inYears0 (S := S) (V := V) (dn := dn) (r := u) (n0 := z / 10) (lo := lo) (T := T) hV hdn hcd hpl (by omega) hz1 hz50 s hT hlo hlo2) (by decide) (Nat.le_of_ble_eq_true rfl) ?_
        intro S2 f2
        refine k_ireturn eX11_years_90 rfl rfl ?_
        first | exact absurd c_48 c_79 | exact ⟨by rw [aYrs, if_pos hC, (dmN hz31 (by decide) (by decide)).1, (dmN hz31 (by decide) (by decide)).2, ix_nI (by omega), ix_nI (by omega), if_neg (fun q => c_48 (by have e := congrArg Int32.toInt q; rw [nI_toInt (by omega), nI_toInt (by omega)] at e; omega))], _, rfl, f2⟩
      refine k_iconst (v := nI 1) eX11_years_82 (by decide) ?_
      refine k_goto 87 eX11_years_83 (by decide) ?_
      refine cVX1 (M' := MX4_inYears) eX11_years_87 mX11_271 wX4_inYears vX4_inYears ⟨_, _, _, rfl, rfl, rfl⟩ rfl (pX4_inYears1 (S := S) (V := V) (dn := dn) (r := u) (n0 := z / 10) (lo := lo) (T := T) hV hdn hcd hpl (by omega) hz1 hz50 s hT hlo hlo2) (by decide) (Nat.le_of_ble_eq_true rfl) ?_
      intro S2 f2
      refine k_ireturn eX11_years_90 rfl rfl ?_
      first | exact absurd c_79 c_48 | exact ⟨by rw [aYrs, if_pos hC, (dmN hz31 (by decide) (by decide)).1, (dmN hz31 (by decide) (by decide)).2, ix_nI (by omega), ix_nI (by omega), if_pos (by rw [c_48]), if_neg (by have := (lst_neg hcd).mp c_58; omega)], _, rfl, f2⟩
    refine k_bipush (v := (-2)) eX11_years_61 (by decide) ?_
    refine k_ireturn eX11_years_63 rfl rfl ?_
    exact ⟨by rw [aYrs, if_pos hC, (dmN hz31 (by decide) (by decide)).1, (dmN hz31 (by decide) (by decide)).2, ix_nI (by omega), ix_nI (by omega), if_pos (by rw [c_48]), if_pos (Nat.le_zero.mp (Nat.not_lt.mp (fun q => c_58 ((lst_neg hcd).mpr q))))], _, rfl, Frm.rf S⟩
  refine k_ldc eX11_years_40 kX11_168 rfl ?_
  refine k_ireturn eX11_years_42 rfl rfl ?_
  exact ⟨by rw [aYrs, if_neg (fun q => by first | exact c_8 q.1 | exact q.2.1 c_12 | exact c_25 q.2.2.1 | exact c_37 q.2.2.2)], _, rfl, Frm.rf S⟩
