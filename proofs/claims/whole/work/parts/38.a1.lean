/-! THE CLASS'S OWN METHODS -/
abbrev rm (a b : Int32) : Int32 := a - a / b * b
abbrev pSpn (x : Int32) : Prop := ¬ x < 0 ∧ pD (x / nI 1000) ∧ pD (rm x (nI 1000)) ∧ x / nI 1000 ≤ rm x (nI 1000)
abbrev pRD (kr x : Int32) : Prop := ¬ x < 0 ∧ pW kr (x / nI 1000) ∧ pD (rm x (nI 1000))
def rrN (x : Int32) : Nat := ix (x / nI 1000)
def ddN (x : Int32) : Nat := ix (rm x (nI 1000))
theorem dm_nI {n : Nat} (h : n < 2 ^ 31) : nI n / nI 1000 = nI (n / 1000) ∧ rm (nI n) (nI 1000) = nI (n % 1000) := ⟨pk_div h (by decide) (by decide), pk_rem h (by decide) (by decide)⟩
theorem rrN_nI {n : Nat} (h : n < 2 ^ 31) : rrN (nI n) = n / 1000 := by rw [rrN, (dm_nI h).1, ix_nI (by omega)]
theorem ddN_nI {n : Nat} (h : n < 2 ^ 31) : ddN (nI n) = n % 1000 := by rw [ddN, (dm_nI h).2, ix_nI (by omega)]
theorem pD_N {n : Nat} (h : n < 2 ^ 31) : pD (nI n) ↔ n < 120 := by
  rw [pD, Int32.le_iff_toInt_le, Int32.le_iff_toInt_le, nI_toInt h, nI_toInt (by omega), nI_toInt (by omega)]; omega
theorem pW_N {n rn : Nat} (h : n < 2 ^ 31) (hr : rn < 2 ^ 31) : pW (nI rn) (nI n) ↔ n < rn := by
  rw [pW, Int32.le_iff_toInt_le, Int32.lt_iff_toInt_lt, nI_toInt h, nI_toInt (by omega), nI_toInt hr]; omega
theorem pD_ex {x : Int32} (h : pD x) : ∃ j, j < 120 ∧ x = nI j := by
  obtain ⟨j, h1, h2⟩ := k_rngle h.1 h.2 (by decide)
  exact ⟨j, by omega, h2⟩
theorem pW_ex {k x : Int32} {n : Nat} (h : pW k x) (hk : k = nI n) (hn : n < 2 ^ 31) : ∃ j, j < n ∧ x = nI j := by subst hk; exact k_rng h.1 h.2 hn
theorem pRD_ex {kr x : Int32} {rn : Nat} (h : pRD kr x) (hk : kr = nI rn) (hrn : rn ≤ 5) : ∃ n, n < 2 ^ 31 ∧ x = nI n ∧ n / 1000 < rn ∧ n % 1000 < 120 := by
  obtain ⟨n, h1, rfl⟩ := k_nneg h.1
  obtain ⟨_, h2, h3⟩ := h
  rw [(dm_nI h1).1, hk, pW_N (by omega) (by omega)] at h2
  rw [(dm_nI h1).2, pD_N (by omega)] at h3
  exact ⟨n, h1, rfl, h2, h3⟩
theorem pSpn_ex {x : Int32} (h : pSpn x) : ∃ n, n < 2 ^ 31 ∧ x = nI n ∧ n / 1000 < 120 ∧ n % 1000 < 120 ∧ n / 1000 ≤ n % 1000 := by
  obtain ⟨n, h1, rfl⟩ := k_nneg h.1
  obtain ⟨_, h2, h3, h4⟩ := h
  rw [(dm_nI h1).1, pD_N (by omega)] at h2
  rw [(dm_nI h1).2, pD_N (by omega)] at h3
  rw [(dm_nI h1).1, (dm_nI h1).2, Int32.le_iff_toInt_le, nI_toInt (by omega), nI_toInt (by omega)] at h4
  exact ⟨n, h1, rfl, h2, h3, by omega⟩
set_option maxHeartbeats 400000 in
theorem pX11_isSpan {h : k_H} (x : Int32) : Sp 2 0 0 MX11_isSpan [.int (x)] h (Rt (some (.int (b2i (pSpn x)))) (h)) := by
  refine Sp_of (by decide +kernel) (Nat.le_of_ble_eq_true rfl) ?_
  show AW none MX11_isSpan 2 0 0 0 [.int (x)] [] h _
  refine k_iload_n eX11_isSpan_0 rfl ?_
  refine k_if_lt 43 eX11_isSpan_1 (by decide) (fun c_1 => ?_) (fun c_1 => ?_)
  · refine k_iconst (v := nI 0) eX11_isSpan_43 (by decide) ?_
    refine k_ireturn eX11_isSpan_44 rfl rfl ?_
    exact ⟨rt_f (fun q => by first | exact q.1 c_1 | exact c_12 q.2.1 | exact c_23 q.2.2.1 | exact absurd q.2.2.2 (Int32.not_le.mpr c_36)), rfl⟩
  refine k_iload_n eX11_isSpan_4 rfl ?_
  refine k_sipush (v := nI 1000) eX11_isSpan_5 (by decide) ?_
  refine k_idiv eX11_isSpan_8 (by decide) ?_
  refine cS1 (M' := MX11_isDay) eX11_isSpan_9 mX11_122 wX11_isDay sX11_isDay rfl (pX11_isDay ((x / nI 1000))) (by decide) (Nat.le_of_ble_eq_true rfl) ?_
  refine k_ifb_eq 43 eX11_isSpan_12 (by decide) (fun c_12 => ?_) (fun c_12 => ?_)
  · refine k_iconst (v := nI 0) eX11_isSpan_43 (by decide) ?_
    refine k_ireturn eX11_isSpan_44 rfl rfl ?_
    exact ⟨rt_f (fun q => by first | exact q.1 c_1 | exact c_12 q.2.1 | exact c_23 q.2.2.1 | exact absurd q.2.2.2 (Int32.not_le.mpr c_36)), rfl⟩
  refine k_iload_n eX11_isSpan_15 rfl ?_
  refine k_sipush (v := nI 1000) eX11_isSpan_16 (by decide) ?_
  refine k_irem eX11_isSpan_19 (by decide) ?_
  refine cS1 (M' := MX11_isDay) eX11_isSpan_20 mX11_122 wX11_isDay sX11_isDay rfl (pX11_isDay ((x - x / nI 1000 * nI 1000))) (by decide) (Nat.le_of_ble_eq_true rfl) ?_
  refine k_ifb_eq 43 eX11_isSpan_23 (by decide) (fun c_23 => ?_) (fun c_23 => ?_)
  · refine k_iconst (v := nI 0) eX11_isSpan_43 (by decide) ?_
    refine k_ireturn eX11_isSpan_44 rfl rfl ?_
    exact ⟨rt_f (fun q => by first | exact q.1 c_1 | exact c_12 q.2.1 | exact c_23 q.2.2.1 | exact absurd q.2.2.2 (Int32.not_le.mpr c_36)), rfl⟩
  refine k_iload_n eX11_isSpan_26 rfl ?_
  refine k_sipush (v := nI 1000) eX11_isSpan_27 (by decide) ?_
  refine k_idiv eX11_isSpan_30 (by decide) ?_
  refine k_iload_n eX11_isSpan_31 rfl ?_
  refine k_sipush (v := nI 1000) eX11_isSpan_32 (by decide) ?_
  refine k_irem eX11_isSpan_35 (by decide) ?_
  refine k_icmp_gt 43 eX11_isSpan_36 (by decide) (fun c_36 => ?_) (fun c_36 => ?_)
  · refine k_iconst (v := nI 0) eX11_isSpan_43 (by decide) ?_
    refine k_ireturn eX11_isSpan_44 rfl rfl ?_
    exact ⟨rt_f (fun q => by first | exact q.1 c_1 | exact c_12 q.2.1 | exact c_23 q.2.2.1 | exact absurd q.2.2.2 (Int32.not_le.mpr c_36)), rfl⟩
  refine k_iconst (v := nI 1) eX11_isSpan_39 (by decide) ?_
  refine k_goto 44 eX11_isSpan_40 (by decide) ?_
  refine k_ireturn eX11_isSpan_44 rfl rfl ?_
  exact ⟨rt_t ⟨c_1, c_12, c_23, Int32.not_lt.mp c_36⟩, rfl⟩
set_option maxHeartbeats 400000 in
theorem pX11_isRunnersDay {S : k_S} (x : Int32) : Sp 2 0 0 MX11_isRunnersDay [.ref 0, .int (x)] (hp S) (Rt (some (.int (b2i (pRD (S.1 1003) x)))) (hp S)) := by
  refine Sp_of (by decide +kernel) (Nat.le_of_ble_eq_true rfl) ?_
  show AW none MX11_isRunnersDay 2 0 0 0 [.ref 0, .int (x)] [] (hp S) _
  refine k_iload_n eX11_isRunnersDay_0 rfl ?_
  refine k_if_lt 34 eX11_isRunnersDay_1 (by decide) (fun c_1 => ?_) (fun c_1 => ?_)
  · refine k_iconst (v := nI 0) eX11_isRunnersDay_34 (by decide) ?_
    refine k_ireturn eX11_isRunnersDay_35 rfl rfl ?_
    exact ⟨rt_f (fun q => by first | exact q.1 c_1 | exact c_16 q.2.1 | exact c_27 q.2.2), rfl⟩
  refine k_aload_n eX11_isRunnersDay_4 rfl ?_
  refine GX11_71 eX11_isRunnersDay_5 rfl ?_
  refine k_iload_n eX11_isRunnersDay_8 rfl ?_
  refine k_sipush (v := nI 1000) eX11_isRunnersDay_9 (by decide) ?_
  refine k_idiv eX11_isRunnersDay_12 (by decide) ?_
  refine cV1 (M' := MX8_has) eX11_isRunnersDay_13 mX11_175 wX8_has vX8_has ⟨_, _, _, rfl, rfl, rfl⟩ rfl (pX8_has (S := S) ((x / nI 1000))) (by decide) (Nat.le_of_ble_eq_true rfl) ?_
  refine k_ifb_eq 34 eX11_isRunnersDay_16 (by decide) (fun c_16 => ?_) (fun c_16 => ?_)
  · refine k_iconst (v := nI 0) eX11_isRunnersDay_34 (by decide) ?_
    refine k_ireturn eX11_isRunnersDay_35 rfl rfl ?_
    exact ⟨rt_f (fun q => by first | exact q.1 c_1 | exact c_16 q.2.1 | exact c_27 q.2.2), rfl⟩
  refine k_iload_n eX11_isRunnersDay_19 rfl ?_
  refine k_sipush (v := nI 1000) eX11_isRunnersDay_20 (by decide) ?_
  refine k_irem eX11_isRunnersDay_23 (by decide) ?_
  refine cS1 (M' := MX11_isDay) eX11_isRunnersDay_24 mX11_122 wX11_isDay sX11_isDay rfl (pX11_isDay ((x - x / nI 1000 * nI 1000))) (by decide) (Nat.le_of_ble_eq_true rfl) ?_
  refine k_ifb_eq 34 eX11_isRunnersDay_27 (by decide) (fun c_27 => ?_) (fun c_27 => ?_)
  · refine k_iconst (v := nI 0) eX11_isRunnersDay_34 (by decide) ?_
    refine k_ireturn eX11_isRunnersDay_35 rfl rfl ?_
    exact ⟨rt_f (fun q => by first | exact q.1 c_1 | exact c_16 q.2.1 | exact c_27 q.2.2), rfl⟩
  refine k_iconst (v := nI 1) eX11_isRunnersDay_30 (by decide) ?_
  refine k_goto 35 eX11_isRunnersDay_31 (by decide) ?_
  refine k_ireturn eX11_isRunnersDay_35 rfl rfl ?_
  exact ⟨rt_t ⟨c_1, c_16, c_27⟩, rfl⟩
def aOf (V : k_V) (x : Int32) : Int32 := if pD x then V 6 (ix x) else -1
set_option maxHeartbeats 400000 in
theorem pX11_of {S : k_S} {V : k_V} (hV : vC S = V) (x : Int32) : Sp 2 0 0 MX11_of [.ref 0, .int (x)] (hp S) (Rt (some (.int (aOf V x))) (hp S)) := by
  refine Sp_of (by decide +kernel) (Nat.le_of_ble_eq_true rfl) ?_
  show AW none MX11_of 2 0 0 0 [.ref 0, .int (x)] [] (hp S) _
  refine k_iload_n eX11_of_0 rfl ?_
  refine cS1 (M' := MX11_isDay) eX11_of_1 mX11_122 wX11_isDay sX11_isDay rfl (pX11_isDay (x)) (by decide) (Nat.le_of_ble_eq_true rfl) ?_
  refine k_ifb_eq 18 eX11_of_4 (by decide) (fun c_4 => ?_) (fun c_4 => ?_)
  · refine k_iconst (v := (-1)) eX11_of_18 (by decide) ?_
    refine k_ireturn eX11_of_19 rfl rfl ?_
    exact ⟨by rw [aOf, if_neg c_4], rfl⟩
  obtain ⟨j, hj, rfl⟩ := pD_ex c_4
  refine k_aload_n eX11_of_7 rfl ?_
  refine GX11_75 eX11_of_8 rfl ?_
  refine k_iload_n eX11_of_11 rfl ?_
  refine cV1 (M' := MX2_at) eX11_of_12 mX11_161 wX2_at vX2_at ⟨_, _, _, rfl, rfl, rfl⟩ rfl (pX2_at (S := S) (j := j) (by omega)) (by decide) (Nat.le_of_ble_eq_true rfl) ?_
  refine k_topi ((V 6 j)) (congrFun (congrFun hV 6) _) ?_
  refine k_goto 19 eX11_of_15 (by decide) ?_
  refine k_ireturn eX11_of_19 rfl rfl ?_
  exact ⟨by rw [aOf, if_pos c_4, ix_nI (by omega)], rfl⟩
def aFit (V : k_V) (kr x w : Int32) : Int32 := if pRD kr x ∧ pIn w (nI 0) (nI 2) then (if w = 0 then fitv V (rrN x) (ddN x) else if w = nI 1 then sSum V (rrN x) (ddN x) (ddN x + 1) else tSum V (rrN x) (ddN x) (ddN x + 1)) else -2000000000
set_option maxHeartbeats 400000 in
theorem pX11_fit {S : k_S} {V : k_V} (hV : vC S = V) (hpl : PlanOk V) {rn : Nat} (hrn : S.1 1003 = nI rn) (hrn5 : rn ≤ 5) (x w : Int32) : Sp 3 0 0 MX11_fit [.ref 0, .int (x), .int (w)] (hp S) (Rt (some (.int (aFit V (S.1 1003) x w))) (hp S)) := by
  refine Sp_of (by decide +kernel) (Nat.le_of_ble_eq_true rfl) ?_
  show AW none MX11_fit 3 0 0 0 [.ref 0, .int (x), .int (w), .null, .null] [] (hp S) _
  refine k_aload_n eX11_fit_0 rfl ?_
  refine k_iload_n eX11_fit_1 rfl ?_
  refine cV1 (M' := MX11_isRunnersDay) eX11_fit_2 mX11_165 wX11_isRunnersDay vX11_isRunnersDay ⟨_, _, _, rfl, rfl, rfl⟩ rfl (pX11_isRunnersDay (S := S) (x)) (by decide) (Nat.le_of_ble_eq_true rfl) ?_
  refine k_ifb_eq 17 eX11_fit_5 (by decide) (fun c_5 => ?_) (fun c_5 => ?_)
  · refine k_ldc eX11_fit_17 kX11_168 rfl ?_
    refine k_ireturn eX11_fit_19 rfl rfl ?_
    exact ⟨by rw [aFit, if_neg (fun q => by first | exact c_5 q.1 | exact c_14 q.2)], rfl⟩
  refine k_iload_n eX11_fit_8 rfl ?_
  refine k_iconst (v := nI 0) eX11_fit_9 (by decide) ?_
  refine k_iconst (v := nI 2) eX11_fit_10 (by decide) ?_
  refine cS1 (M' := MX11_within) eX11_fit_11 mX11_114 wX11_within sX11_within rfl (pX11_within (w) (nI 0) (nI 2)) (by decide) (Nat.le_of_ble_eq_true rfl) ?_
  refine k_ifb_ne 20 eX11_fit_14 (by decide) (fun c_14 => ?_) (fun c_14 => ?_)
  · obtain ⟨z, hz31, rfl, hzr, hzd⟩ := pRD_ex c_5 hrn hrn5
    refine k_aload_n eX11_fit_20 rfl ?_
    refine GX11_83 eX11_fit_21 rfl ?_
    refine k_iload_n eX11_fit_24 rfl ?_
    refine k_sipush (v := nI 1000) eX11_fit_25 (by decide) ?_
    refine k_idivN eX11_fit_28 (by omega) (by omega) (by omega) ?_
    refine k_iload_n eX11_fit_29 rfl ?_
    refine k_sipush (v := nI 1000) eX11_fit_30 (by decide) ?_
    refine k_iremN eX11_fit_33 (by omega) (by omega) (by omega) ?_
    refine k_iload_n eX11_fit_34 rfl ?_
    refine k_sipush (v := nI 1000) eX11_fit_35 (by decide) ?_
    refine k_iremN eX11_fit_38 (by omega) (by omega) (by omega) ?_
    refine cV1 (M' := MX3_strongBy) eX11_fit_39 mX11_169 wX3_strongBy vX3_strongBy ⟨_, _, _, rfl, rfl, rfl⟩ rfl (pX3_strongBy (S := S) (V := V) (r := (z / 1000)) (day := (z % 1000)) (n0 := (z % 1000 + 1)) hV hpl (by omega) (by omega) (by omega) (to_of (by omega))) (by decide) (Nat.le_of_ble_eq_true rfl) ?_
    refine k_istore_n (L2 := [_, _, _, _, _]) eX11_fit_42 (Nat.le_of_ble_eq_true rfl) rfl ?_
    refine k_aload_n eX11_fit_43 rfl ?_
    refine GX11_83 eX11_fit_44 rfl ?_
    refine k_iload_n eX11_fit_47 rfl ?_
    refine k_sipush (v := nI 1000) eX11_fit_48 (by decide) ?_
    refine k_idivN eX11_fit_51 (by omega) (by omega) (by omega) ?_
    refine k_iload_n eX11_fit_52 rfl ?_
    refine k_sipush (v := nI 1000) eX11_fit_53 (by decide) ?_
    refine k_iremN eX11_fit_56 (by omega) (by omega) (by omega) ?_
    refine k_iload_n eX11_fit_57 rfl ?_
    refine k_sipush (v := nI 1000) eX11_fit_58 (by decide) ?_
    refine k_iremN eX11_fit_61 (by omega) (by omega) (by omega) ?_
    refine cV1 (M' := MX3_tiredBy) eX11_fit_62 mX11_172 wX3_tiredBy vX3_tiredBy ⟨_, _, _, rfl, rfl, rfl⟩ rfl (pX3_tiredBy (S := S) (V := V) (r := (z / 1000)) (day := (z % 1000)) (n0 := (z % 1000 + 1)) hV hpl (by omega) (by omega) (by omega) (to_of (by omega))) (by decide) (Nat.le_of_ble_eq_true rfl) ?_
    refine k_istore (L2 := [_, _, _, _, _]) eX11_fit_65 (Nat.le_of_ble_eq_true rfl) rfl ?_
    refine k_iload_n eX11_fit_67 rfl ?_
    refine k_if_ne 76 eX11_fit_68 (by decide) (fun c_68 => ?_) (fun c_68 => ?_)
    · refine k_iload_n eX11_fit_76 rfl ?_
      refine k_iconst (v := nI 1) eX11_fit_77 (by decide) ?_
      refine k_icmp_ne 85 eX11_fit_78 (by decide) (fun c_78 => ?_) (fun c_78 => ?_)
      · refine k_iload eX11_fit_85 rfl ?_
        refine k_ireturn eX11_fit_87 rfl rfl ?_
        exact ⟨by rw [aFit, if_pos ⟨c_5, c_14⟩, rrN_nI hz31, ddN_nI hz31, if_neg c_68, if_neg c_78], rfl⟩
      refine k_iload_n eX11_fit_81 rfl ?_
      refine k_goto 87 eX11_fit_82 (by decide) ?_
      refine k_ireturn eX11_fit_87 rfl rfl ?_
      exact ⟨by rw [aFit, if_pos ⟨c_5, c_14⟩, rrN_nI hz31, ddN_nI hz31, if_neg c_68, if_pos c_78], rfl⟩
    refine k_iload_n eX11_fit_71 rfl ?_
    refine k_iload eX11_fit_72 rfl ?_
    refine k_isub eX11_fit_74 ?_
    refine k_ireturn eX11_fit_75 rfl rfl ?_
    exact ⟨by rw [aFit, if_pos ⟨c_5, c_14⟩, rrN_nI hz31, ddN_nI hz31, if_pos c_68]; rfl, rfl⟩
  refine k_ldc eX11_fit_17 kX11_168 rfl ?_
  refine k_ireturn eX11_fit_19 rfl rfl ?_
  exact ⟨by rw [aFit, if_neg (fun q => by first | exact c_5 q.1 | exact c_14 q.2)], rfl⟩
def aPts (V : k_V) (kr kw r w k : Int32) : Int32 := if pW kr r ∧ pW kw w ∧ pD k then pts V (ix r) (ix w) (ix k) else -2000000000
set_option maxHeartbeats 400000 in
theorem pX11_points {S : k_S} {V : k_V} (hV : vC S = V) {rn : Nat} (hrn : S.1 1003 = nI rn) (hrn5 : rn ≤ 5) {wk : Nat} (hwk : S.1 803 = nI wk) (hwk1 : 1 ≤ wk) (hwk6 : wk ≤ 6) (x y z : Int32) : Sp 3 0 0 MX11_points [.ref 0, .int (x), .int (y), .int (z)] (hp S) (Rt (some (.int (aPts V (S.1 1003) (S.1 803) x y z))) (hp S)) := by
  refine Sp_of (by decide +kernel) (Nat.le_of_ble_eq_true rfl) ?_
  show AW none MX11_points 3 0 0 0 [.ref 0, .int (x), .int (y), .int (z)] [] (hp S) _
  refine k_aload_n eX11_points_0 rfl ?_
  refine GX11_71 eX11_points_1 rfl ?_
  refine k_iload_n eX11_points_4 rfl ?_
  refine cV1 (M' := MX8_has) eX11_points_5 mX11_175 wX8_has vX8_has ⟨_, _, _, rfl, rfl, rfl⟩ rfl (pX8_has (S := S) (x)) (by decide) (Nat.le_of_ble_eq_true rfl) ?_
  refine k_ifb_eq 29 eX11_points_8 (by decide) (fun c_8 => ?_) (fun c_8 => ?_)
  · refine k_ldc eX11_points_29 kX11_168 rfl ?_
    refine k_ireturn eX11_points_31 rfl rfl ?_
    exact ⟨by rw [aPts, if_neg (fun q => by first | exact c_8 q.1 | exact c_19 q.2.1 | exact c_26 q.2.2)], rfl⟩
  refine k_aload_n eX11_points_11 rfl ?_
  refine GX11_67 eX11_points_12 rfl ?_
  refine k_iload_n eX11_points_15 rfl ?_
  refine cV1 (M' := MX10_has) eX11_points_16 mX11_110 wX10_has vX10_has ⟨_, _, _, rfl, rfl, rfl⟩ rfl (pX10_has (S := S) (y)) (by decide) (Nat.le_of_ble_eq_true rfl) ?_
  refine k_ifb_eq 29 eX11_points_19 (by decide) (fun c_19 => ?_) (fun c_19 => ?_)
  · refine k_ldc eX11_points_29 kX11_168 rfl ?_
    refine k_ireturn eX11_points_31 rfl rfl ?_
    exact ⟨by rw [aPts, if_neg (fun q => by first | exact c_8 q.1 | exact c_19 q.2.1 | exact c_26 q.2.2)], rfl⟩
  refine k_iload_n eX11_points_22 rfl ?_
  refine cS1 (M' := MX11_isDay) eX11_points_23 mX11_122 wX11_isDay sX11_isDay rfl (pX11_isDay (z)) (by decide) (Nat.le_of_ble_eq_true rfl) ?_
  refine k_ifb_ne 32 eX11_points_26 (by decide) (fun c_26 => ?_) (fun c_26 => ?_)
  · obtain ⟨r, hr, rfl⟩ := pW_ex c_8 hrn (by omega)
    obtain ⟨w, hw, rfl⟩ := pW_ex c_19 hwk (by omega)
    obtain ⟨k, hk, rfl⟩ := pD_ex c_26
    refine k_aload_n eX11_points_32 rfl ?_
    refine GX11_83 eX11_points_33 rfl ?_
    refine k_iload_n eX11_points_36 rfl ?_
    refine k_iload_n eX11_points_37 rfl ?_
    refine k_iload_n eX11_points_38 rfl ?_
    refine cV1 (M' := MX3_brought) eX11_points_39 mX11_176 wX3_brought vX3_brought ⟨_, _, _, rfl, rfl, rfl⟩ rfl (pX3_brought (S := S) (V := V) (r := r) (w := w) (k := k) hV (by omega) (by omega) (by omega)) (by decide) (Nat.le_of_ble_eq_true rfl) ?_
    refine k_ireturn eX11_points_42 rfl rfl ?_
    exact ⟨by rw [aPts, if_pos ⟨c_8, c_19, c_26⟩, ix_nI (by omega), ix_nI (by omega), ix_nI (by omega)], rfl⟩
  refine k_ldc eX11_points_29 kX11_168 rfl ?_
  refine k_ireturn eX11_points_31 rfl rfl ?_
  exact ⟨by rw [aPts, if_neg (fun q => by first | exact c_8 q.1 | exact c_19 q.2.1 | exact c_26 q.2.2)], rfl⟩
def aWor (V : k_V) (dn : Nat) (kr kw x w : Int32) : Int32 := if pRD kr x ∧ pW kw w then wor V dn (rrN x) (ix w) (ddN x) else -2000000000
def aGai (V : k_V) (dn : Nat) (kr x : Int32) : Int32 := if pW kr x then gai V dn (ix x) 120 else -2000000000
def aLed (V : k_V) (kr x : Int32) : Int32 := if pRD kr x then (ld V (rrN x) (ddN x) (ddN x + 1)).1 else -1
set_option maxHeartbeats 400000 in
theorem pX11_worth {S : k_S} {V : k_V} (hV : vC S = V) {dn : Nat} (hdn : S.1 1302 = nI dn) (hcd : CntOk V dn) {rn : Nat} (hrn : S.1 1003 = nI rn) (hrn5 : rn ≤ 5) {wk : Nat} (hwk : S.1 803 = nI wk) (hwk1 : 1 ≤ wk) (hwk6 : wk ≤ 6) (x y : Int32) : Sp 4 0 0 MX11_worth [.ref 0, .int (x), .int (y)] (hp S) (Rt (some (.int (aWor V dn (S.1 1003) (S.1 803) x y))) (hp S)) := by
  refine Sp_of (by decide +kernel) (Nat.le_of_ble_eq_true rfl) ?_
  show AW none MX11_worth 4 0 0 0 [.ref 0, .int (x), .int (y)] [] (hp S) _
  refine k_aload_n eX11_worth_0 rfl ?_
  refine k_iload_n eX11_worth_1 rfl ?_
  refine cV1 (M' := MX11_isRunnersDay) eX11_worth_2 mX11_165 wX11_isRunnersDay vX11_isRunnersDay ⟨_, _, _, rfl, rfl, rfl⟩ rfl (pX11_isRunnersDay (S := S) (x)) (by decide) (Nat.le_of_ble_eq_true rfl) ?_
  refine k_ifb_eq 19 eX11_worth_5 (by decide) (fun c_5 => ?_) (fun c_5 => ?_)
  · refine k_ldc eX11_worth_19 kX11_168 rfl ?_
    refine k_ireturn eX11_worth_21 rfl rfl ?_
    exact ⟨by rw [aWor, if_neg (fun q => by first | exact c_5 q.1 | exact c_16 q.2)], rfl⟩
  refine k_aload_n eX11_worth_8 rfl ?_
  refine GX11_67 eX11_worth_9 rfl ?_
  refine k_iload_n eX11_worth_12 rfl ?_
  refine cV1 (M' := MX10_has) eX11_worth_13 mX11_110 wX10_has vX10_has ⟨_, _, _, rfl, rfl, rfl⟩ rfl (pX10_has (S := S) (y)) (by decide) (Nat.le_of_ble_eq_true rfl) ?_
  refine k_ifb_ne 22 eX11_worth_16 (by decide) (fun c_16 => ?_) (fun c_16 => ?_)
  · obtain ⟨z, hz31, rfl, hzr, hzd⟩ := pRD_ex c_5 hrn hrn5
    obtain ⟨w, hw, rfl⟩ := pW_ex c_16 hwk (by omega)
    refine k_aload_n eX11_worth_22 rfl ?_
    refine GX11_83 eX11_worth_23 rfl ?_
    refine k_iload_n eX11_worth_26 rfl ?_
    refine k_sipush (v := nI 1000) eX11_worth_27 (by decide) ?_
    refine k_idivN eX11_worth_30 (by omega) (by omega) (by omega) ?_
    refine k_iload_n eX11_worth_31 rfl ?_
    refine k_iload_n eX11_worth_32 rfl ?_
    refine k_sipush (v := nI 1000) eX11_worth_33 (by decide) ?_
    refine k_iremN eX11_worth_36 (by omega) (by omega) (by omega) ?_
    refine cV1 (M' := MX3_valueOf) eX11_worth_37 mX11_187 wX3_valueOf vX3_valueOf ⟨_, _, _, rfl, rfl, rfl⟩ rfl (pX3_valueOf (S := S) (V := V) (dn := dn) (r := (z / 1000)) (w := w) (dd := (z % 1000)) hV hdn hcd (by omega) (by omega) (by omega)) (by decide) (Nat.le_of_ble_eq_true rfl) ?_
    refine k_ireturn eX11_worth_40 rfl rfl ?_
    exact ⟨by rw [aWor, if_pos ⟨c_5, c_16⟩, rrN_nI hz31, ddN_nI hz31, ix_nI (by omega)], rfl⟩
  refine k_ldc eX11_worth_19 kX11_168 rfl ?_
  refine k_ireturn eX11_worth_21 rfl rfl ?_
  exact ⟨by rw [aWor, if_neg (fun q => by first | exact c_5 q.1 | exact c_16 q.2)], rfl⟩
set_option maxHeartbeats 400000 in
theorem pX11_gained {S : k_S} {V : k_V} (hV : vC S = V) {dn : Nat} (hdn : S.1 1302 = nI dn) (hcd : CntOk V dn) (hpl : PlanOk V) {rn : Nat} (hrn : S.1 1003 = nI rn) (hrn5 : rn ≤ 5) (x : Int32) : Sp 5 0 0 MX11_gained [.ref 0, .int (x)] (hp S) (Rt (some (.int (aGai V dn (S.1 1003) x))) (hp S)) := by
  refine Sp_of (by decide +kernel) (Nat.le_of_ble_eq_true rfl) ?_
  show AW none MX11_gained 5 0 0 0 [.ref 0, .int (x)] [] (hp S) _
  refine k_aload_n eX11_gained_0 rfl ?_
  refine GX11_71 eX11_gained_1 rfl ?_
  refine k_iload_n eX11_gained_4 rfl ?_
  refine cV1 (M' := MX8_has) eX11_gained_5 mX11_175 wX8_has vX8_has ⟨_, _, _, rfl, rfl, rfl⟩ rfl (pX8_has (S := S) (x)) (by decide) (Nat.le_of_ble_eq_true rfl) ?_
  refine k_ifb_eq 22 eX11_gained_8 (by decide) (fun c_8 => ?_) (fun c_8 => ?_)
  · refine k_ldc eX11_gained_22 kX11_168 rfl ?_
    refine k_ireturn eX11_gained_24 rfl rfl ?_
    exact ⟨by rw [aGai, if_neg c_8], rfl⟩
  obtain ⟨r, hr, rfl⟩ := pW_ex c_8 hrn (by omega)
  refine k_aload_n eX11_gained_11 rfl ?_
  refine GX11_83 eX11_gained_12 rfl ?_
  refine k_iload_n eX11_gained_15 rfl ?_
  refine cV1 (M' := MX3_gainedOf) eX11_gained_16 mX11_190 wX3_gainedOf vX3_gainedOf ⟨_, _, _, rfl, rfl, rfl⟩ rfl (pX3_gainedOf (S := S) (V := V) (dn := dn) (r := r) hV hdn hcd hpl (by omega)) (by decide) (Nat.le_of_ble_eq_true rfl) ?_
  refine k_goto 24 eX11_gained_19 (by decide) ?_
  refine k_ireturn eX11_gained_24 rfl rfl ?_
  exact ⟨by rw [aGai, if_pos c_8, ix_nI (by omega)], rfl⟩
set_option maxHeartbeats 400000 in
theorem pX11_led {S : k_S} {V : k_V} (hV : vC S = V) (hpl : PlanOk V) {rn : Nat} (hrn : S.1 1003 = nI rn) (hrn5 : rn ≤ 5) (x : Int32) : Sp 4 0 0 MX11_led [.ref 0, .int (x)] (hp S) (Rt (some (.int (aLed V (S.1 1003) x))) (hp S)) := by
  refine Sp_of (by decide +kernel) (Nat.le_of_ble_eq_true rfl) ?_
  show AW none MX11_led 4 0 0 0 [.ref 0, .int (x)] [] (hp S) _
  refine k_aload_n eX11_led_0 rfl ?_
  refine k_iload_n eX11_led_1 rfl ?_
  refine cV1 (M' := MX11_isRunnersDay) eX11_led_2 mX11_165 wX11_isRunnersDay vX11_isRunnersDay ⟨_, _, _, rfl, rfl, rfl⟩ rfl (pX11_isRunnersDay (S := S) (x)) (by decide) (Nat.le_of_ble_eq_true rfl) ?_
  refine k_ifb_eq 28 eX11_led_5 (by decide) (fun c_5 => ?_) (fun c_5 => ?_)
  · refine k_iconst (v := (-1)) eX11_led_28 (by decide) ?_
    refine k_ireturn eX11_led_29 rfl rfl ?_
    exact ⟨by rw [aLed, if_neg c_5], rfl⟩
  obtain ⟨z, hz31, rfl, hzr, hzd⟩ := pRD_ex c_5 hrn hrn5
  refine k_aload_n eX11_led_8 rfl ?_
  refine GX11_83 eX11_led_9 rfl ?_
  refine k_iload_n eX11_led_12 rfl ?_
  refine k_sipush (v := nI 1000) eX11_led_13 (by decide) ?_
  refine k_idivN eX11_led_16 (by omega) (by omega) (by omega) ?_
  refine k_iload_n eX11_led_17 rfl ?_
  refine k_sipush (v := nI 1000) eX11_led_18 (by decide) ?_
  refine k_iremN eX11_led_21 (by omega) (by omega) (by omega) ?_
  refine cV1 (M' := MX3_leadingDay) eX11_led_22 mX11_202 wX3_leadingDay vX3_leadingDay ⟨_, _, _, rfl, rfl, rfl⟩ rfl (pX3_leadingDay (S := S) (V := V) (r := (z / 1000)) (day := (z % 1000)) hV hpl (by omega) (by omega)) (by decide) (Nat.le_of_ble_eq_true rfl) ?_
  refine k_goto 29 eX11_led_25 (by decide) ?_
  refine k_ireturn eX11_led_29 rfl rfl ?_
  exact ⟨by rw [aLed, if_pos c_5, rrN_nI hz31, ddN_nI hz31], rfl⟩
/-- what is gained on n days from d on -/
def gaR (V : k_V) (dn r d : Nat) : Nat → Int32 := sumN (fun j => wor V dn r (pw V (d + j)) (d + j))
def lsS (f : Nat → Int32) : Nat → Int32
  | 0 => nI 0
  | n + 1 => lsS f n - f n
def aCold (V : k_V) (dn : Nat) (kr x n : Int32) : Int32 := if pRD kr x ∧ pIn n (nI 1) (nI 30) then lsS (fun j => wor V dn (rrN x) (pw V (ddN x + j)) (ddN x + j)) (min (ix n) (120 - ddN x)) else -2000000000
set_option maxHeartbeats 400000 in
theorem lX11_coldA {d : Nat} {Po : Option Value → k_H → Prop} (hdd : 4 ≤ d) {S : k_S} {V : k_V} (hV : vC S = V) {dn : Nat} (hdn : S.1 1302 = nI dn) (hcd : CntOk V dn) (hpl : PlanOk V) {z m : Nat} (hz31 : z < 2 ^ 31) (hzr : z / 1000 < 5) (hzd : z % 1000 < 120) (hm : m ≤ 30) (hc : m ≤ 120 - z % 1000) (kx : AW none MX11_cold d 0 0 81 [.ref 0, .int (nI z), .int (nI m), .int (lsS (fun j => wor V dn (z / 1000) (pw V (z % 1000 + j)) (z % 1000 + j)) m), .int (nI (z % 1000 + m))] [] (hp S) Po) : ∀ (n j : Nat), j + n = m → AW none MX11_cold d 0 0 30 [.ref 0, .int (nI z), .int (nI m), .int (lsS (fun j => wor V dn (z / 1000) (pw V (z % 1000 + j)) (z % 1000 + j)) j), .int (nI (z % 1000 + j))] [] (hp S) Po := by
  intro n
  induction n with
  | zero =>
    intro j hj
    rw [show j = m by omega]
    refine k_iload eX11_cold_30 rfl ?_
    refine k_bipush (v := nI 120) eX11_cold_32 (by decide) ?_
    refine k_icmp_geN 81 eX11_cold_34 (by decide) (by omega) (by omega) (fun c_34 => ?_) (fun c_34 => ?_)
    · exact kx
    refine k_iload eX11_cold_37 rfl ?_
    refine k_iload_n eX11_cold_39 rfl ?_
    refine k_sipush (v := nI 1000) eX11_cold_40 (by decide) ?_
    refine k_iremN eX11_cold_43 (by omega) (by omega) (by omega) ?_
    refine k_iload_n eX11_cold_44 rfl ?_
    refine k_iaddN eX11_cold_45 ?_
    refine k_icmp_geN 81 eX11_cold_46 (by decide) (by omega) (by omega) (fun c_46 => ?_) (fun c_46 => by exfalso; omega)
    exact kx
  | succ n ih =>
    intro j hj
    have hpw := hpl.lt (d := z % 1000 + j) (by omega)
    refine k_iload eX11_cold_30 rfl ?_
    refine k_bipush (v := nI 120) eX11_cold_32 (by decide) ?_
    refine k_icmp_geN 81 eX11_cold_34 (by decide) (by omega) (by omega) (fun c_34 => by exfalso; omega) (fun c_34 => ?_)
    refine k_iload eX11_cold_37 rfl ?_
    refine k_iload_n eX11_cold_39 rfl ?_
    refine k_sipush (v := nI 1000) eX11_cold_40 (by decide) ?_
    refine k_iremN eX11_cold_43 (by omega) (by omega) (by omega) ?_
    refine k_iload_n eX11_cold_44 rfl ?_
    refine k_iaddN eX11_cold_45 ?_
    refine k_icmp_geN 81 eX11_cold_46 (by decide) (by omega) (by omega) (fun c_46 => by exfalso; omega) (fun c_46 => ?_)
    refine k_iload_n eX11_cold_49 rfl ?_
    refine k_aload_n eX11_cold_50 rfl ?_
    refine GX11_83 eX11_cold_51 rfl ?_
    refine k_iload_n eX11_cold_54 rfl ?_
    refine k_sipush (v := nI 1000) eX11_cold_55 (by decide) ?_
    refine k_idivN eX11_cold_58 (by omega) (by omega) (by omega) ?_
    refine k_aload_n eX11_cold_59 rfl ?_
    refine GX11_75 eX11_cold_60 rfl ?_
    refine k_iload eX11_cold_63 rfl ?_
    refine cV1 (M' := MX2_at) eX11_cold_65 mX11_161 wX2_at vX2_at ⟨_, _, _, rfl, rfl, rfl⟩ rfl (pX2_at (S := S) (j := (z % 1000 + j)) (by omega)) (by omega) (Nat.le_of_ble_eq_true rfl) ?_
    refine k_topi (nI (pw V (z % 1000 + j))) (vpl hV hpl (by omega)) ?_
    refine k_iload eX11_cold_68 rfl ?_
    refine cV1 (M' := MX3_valueOf) eX11_cold_70 mX11_187 wX3_valueOf vX3_valueOf ⟨_, _, _, rfl, rfl, rfl⟩ rfl (pX3_valueOf (S := S) (V := V) (dn := dn) (r := (z / 1000)) (w := (pw V (z % 1000 + j))) (dd := (z % 1000 + j)) hV hdn hcd (by omega) (by omega) (by omega)) (by omega) (Nat.le_of_ble_eq_true rfl) ?_
    refine k_isub eX11_cold_73 ?_
    refine k_istore_n (L2 := [_, _, _, _, _]) eX11_cold_74 (Nat.le_of_ble_eq_true rfl) rfl ?_
    refine k_iincN (g := 1) (a := (z % 1000 + j)) (L2 := [_, _, _, _, _]) eX11_cold_75 (Nat.le_of_ble_eq_true rfl) rfl rfl ?_
    refine k_goto 30 eX11_cold_78 (by decide) ?_
    exact ih (j + 1) (by omega)
set_option maxHeartbeats 400000 in
theorem lX11_coldB {d : Nat} {Po : Option Value → k_H → Prop} (hdd : 4 ≤ d) {S : k_S} {V : k_V} (hV : vC S = V) {dn : Nat} (hdn : S.1 1302 = nI dn) (hcd : CntOk V dn) (hpl : PlanOk V) {z m : Nat} (hz31 : z < 2 ^ 31) (hzr : z / 1000 < 5) (hzd : z % 1000 < 120) (hm : m ≤ 30) (hc : ¬ m ≤ 120 - z % 1000) (kx : AW none MX11_cold d 0 0 81 [.ref 0, .int (nI z), .int (nI m), .int (lsS (fun j => wor V dn (z / 1000) (pw V (z % 1000 + j)) (z % 1000 + j)) ((120 - z % 1000))), .int (nI (z % 1000 + ((120 - z % 1000))))] [] (hp S) Po) : ∀ (n j : Nat), j + n = (120 - z % 1000) → AW none MX11_cold d 0 0 30 [.ref 0, .int (nI z), .int (nI m), .int (lsS (fun j => wor V dn (z / 1000) (pw V (z % 1000 + j)) (z % 1000 + j)) j), .int (nI (z % 1000 + j))] [] (hp S) Po := by
  intro n
  induction n with
  | zero =>
    intro j hj
    rw [show j = (120 - z % 1000) by omega]
    refine k_iload eX11_cold_30 rfl ?_
    refine k_bipush (v := nI 120) eX11_cold_32 (by decide) ?_
    refine k_icmp_geN 81 eX11_cold_34 (by decide) (by omega) (by omega) (fun c_34 => ?_) (fun c_34 => by exfalso; omega)
    exact kx
  | succ n ih =>
    intro j hj
    have hpw := hpl.lt (d := z % 1000 + j) (by omega)
    refine k_iload eX11_cold_30 rfl ?_
    refine k_bipush (v := nI 120) eX11_cold_32 (by decide) ?_
    refine k_icmp_geN 81 eX11_cold_34 (by decide) (by omega) (by omega) (fun c_34 => by exfalso; omega) (fun c_34 => ?_)
    refine k_iload eX11_cold_37 rfl ?_
    refine k_iload_n eX11_cold_39 rfl ?_
    refine k_sipush (v := nI 1000) eX11_cold_40 (by decide) ?_
    refine k_iremN eX11_cold_43 (by omega) (by omega) (by omega) ?_
    refine k_iload_n eX11_cold_44 rfl ?_
    refine k_iaddN eX11_cold_45 ?_
    refine k_icmp_geN 81 eX11_cold_46 (by decide) (by omega) (by omega) (fun c_46 => by exfalso; omega) (fun c_46 => ?_)
    refine k_iload_n eX11_cold_49 rfl ?_
    refine k_aload_n eX11_cold_50 rfl ?_
    refine GX11_83 eX11_cold_51 rfl ?_
    refine k_iload_n eX11_cold_54 rfl ?_
    refine k_sipush (v := nI 1000) eX11_cold_55 (by decide) ?_
    refine k_idivN eX11_cold_58 (by omega) (by omega) (by omega) ?_
    refine k_aload_n eX11_cold_59 rfl ?_
    refine GX11_75 eX11_cold_60 rfl ?_
    refine k_iload eX11_cold_63 rfl ?_
    refine cV1 (M' := MX2_at) eX11_cold_65 mX11_161 wX2_at vX2_at ⟨_, _, _, rfl, rfl, rfl⟩ rfl (pX2_at (S := S) (j := (z % 1000 + j)) (by omega)) (by omega) (Nat.le_of_ble_eq_true rfl) ?_
    refine k_topi (nI (pw V (z % 1000 + j))) (vpl hV hpl (by omega)) ?_
    refine k_iload eX11_cold_68 rfl ?_
    refine cV1 (M' := MX3_valueOf) eX11_cold_70 mX11_187 wX3_valueOf vX3_valueOf ⟨_, _, _, rfl, rfl, rfl⟩ rfl (pX3_valueOf (S := S) (V := V) (dn := dn) (r := (z / 1000)) (w := (pw V (z % 1000 + j))) (dd := (z % 1000 + j)) hV hdn hcd (by omega) (by omega) (by omega)) (by omega) (Nat.le_of_ble_eq_true rfl) ?_
    refine k_isub eX11_cold_73 ?_
    refine k_istore_n (L2 := [_, _, _, _, _]) eX11_cold_74 (Nat.le_of_ble_eq_true rfl) rfl ?_
    refine k_iincN (g := 1) (a := (z % 1000 + j)) (L2 := [_, _, _, _, _]) eX11_cold_75 (Nat.le_of_ble_eq_true rfl) rfl rfl ?_
    refine k_goto 30 eX11_cold_78 (by decide) ?_
    exact ih (j + 1) (by omega)
set_option maxHeartbeats 400000 in
theorem pX11_cold {S : k_S} {V : k_V} (hV : vC S = V) {dn : Nat} (hdn : S.1 1302 = nI dn) (hcd : CntOk V dn) (hpl : PlanOk V) {rn : Nat} (hrn : S.1 1003 = nI rn) (hrn5 : rn ≤ 5) (x y : Int32) : Sp 4 0 0 MX11_cold [.ref 0, .int (x), .int (y)] (hp S) (Rt (some (.int (aCold V dn (S.1 1003) x y))) (hp S)) := by
  refine Sp_of (by decide +kernel) (Nat.le_of_ble_eq_true rfl) ?_
  show AW none MX11_cold 4 0 0 0 [.ref 0, .int (x), .int (y), .null, .null] [] (hp S) _
  refine k_aload_n eX11_cold_0 rfl ?_
  refine k_iload_n eX11_cold_1 rfl ?_
  refine cV1 (M' := MX11_isRunnersDay) eX11_cold_2 mX11_165 wX11_isRunnersDay vX11_isRunnersDay ⟨_, _, _, rfl, rfl, rfl⟩ rfl (pX11_isRunnersDay (S := S) (x)) (by decide) (Nat.le_of_ble_eq_true rfl) ?_
  refine k_ifb_eq 18 eX11_cold_5 (by decide) (fun c_5 => ?_) (fun c_5 => ?_)
  · refine k_ldc eX11_cold_18 kX11_168 rfl ?_
    refine k_ireturn eX11_cold_20 rfl rfl ?_
    exact ⟨by rw [aCold, if_neg (fun q => by first | exact c_5 q.1 | exact c_15 q.2)], rfl⟩
  refine k_iload_n eX11_cold_8 rfl ?_
  refine k_iconst (v := nI 1) eX11_cold_9 (by decide) ?_
  refine k_bipush (v := nI 30) eX11_cold_10 (by decide) ?_
  refine cS1 (M' := MX11_within) eX11_cold_12 mX11_114 wX11_within sX11_within rfl (pX11_within (y) (nI 1) (nI 30)) (by decide) (Nat.le_of_ble_eq_true rfl) ?_
  refine k_ifb_ne 21 eX11_cold_15 (by decide) (fun c_15 => ?_) (fun c_15 => ?_)
  · obtain ⟨z, hz31, rfl, hzr, hzd⟩ := pRD_ex c_5 hrn hrn5
    obtain ⟨m, hm, rfl⟩ := k_rngle (Int32.le_trans (by decide) c_15.1) c_15.2 (by decide)
    refine k_iconst (v := nI 0) eX11_cold_21 (by decide) ?_
    refine k_istore_n (L2 := [_, _, _, _, _]) eX11_cold_22 (Nat.le_of_ble_eq_true rfl) rfl ?_
    refine k_iload_n eX11_cold_23 rfl ?_
    refine k_sipush (v := nI 1000) eX11_cold_24 (by decide) ?_
    refine k_iremN eX11_cold_27 (by omega) (by omega) (by omega) ?_
    refine k_istore (L2 := [_, _, _, _, _]) eX11_cold_28 (Nat.le_of_ble_eq_true rfl) rfl ?_
    have key : ∀ k, k = min m (120 - z % 1000) → AW none MX11_cold 4 0 0 81 [.ref 0, .int (nI z), .int (nI m), .int (lsS (fun j => wor V dn (z / 1000) (pw V (z % 1000 + j)) (z % 1000 + j)) k), .int (nI (z % 1000 + k))] [] (hp S) (Rt (some (.int (aCold V dn (S.1 1003) (nI z) (nI m)))) (hp S)) := by
      intro k hk
      subst hk
      refine k_iload_n eX11_cold_81 rfl ?_
      refine k_ireturn eX11_cold_82 rfl rfl ?_
      exact ⟨by rw [aCold, if_pos ⟨c_5, c_15⟩, rrN_nI hz31, ddN_nI hz31, ix_nI (by omega)], rfl⟩
    refine k_loc (L2 := [_, _, _, _, .int (nI (z % 1000 + 0))]) rfl ?_
    by_cases hc : m ≤ 120 - z % 1000
    · exact lX11_coldA (by decide) hV hdn hcd hpl hz31 (by omega) hzd hm hc (key m (by omega)) m 0 (by omega)
    · exact lX11_coldB (by decide) hV hdn hcd hpl hz31 (by omega) hzd hm hc (key (120 - z % 1000) (by omega)) (120 - z % 1000) 0 (by omega)
  refine k_ldc eX11_cold_18 kX11_168 rfl ?_
  refine k_ireturn eX11_cold_20 rfl rfl ?_
  exact ⟨by rw [aCold, if_neg (fun q => by first | exact c_5 q.1 | exact c_15 q.2)], rfl⟩
