/-! THE CLASS'S OWN METHODS -/
abbrev rm (a b : Int32) : Int32 := a - a / b * b
abbrev pSpn (x : Int32) : Prop := ¬ x < 0 ∧ pD (x / nI 1000) ∧ pD (rm x (nI 1000)) ∧ x / nI 1000 ≤ rm x (nI 1000)
abbrev pRD (kr x : Int32) : Prop := ¬ x < 0 ∧ pW kr (x / nI 1000) ∧ pD (rm x (nI 1000))
def rrN (x : Int32) : Nat := ix (x / nI 1000)
def ddN (x : Int32) : Nat := ix (rm x (nI 1000))
theorem dm_nI {n : Nat} (h : n < 2 ^ 31) : nI n / nI 1000 = nI (n / 1000) ∧ rm (nI n) (nI 1000) = nI (n % 1000) := ⟨pk_div h (by decide) (by decide), pk_rem h (by decide) (by decide)⟩
theorem rrN_nI {n : Nat} (h : n < 2 ^ 31) : rrN (nI n) = n / 1000 := by rw [rrN, (dm_nI h).1, ix_nI (by omega)]
theorem ddN_nI {n : Nat} (h : n < 2 ^ 31) : ddN (nI n) = n % 1000 := by rw [ddN, (dm_nI h).2, ix_nI (by omega)]
theorem pD_N {n : Nat} (h : n < 2 ^ 31) : pD (nI n) ↔ n < 120 := by
  rw [pD, Int32.le_iff_toInt_le, Int32.le_iff_toInt_le, nI_toInt h, nI_toInt (by omega), nI_toInt (by omega)]; omega
theorem pW_N {n rn : Nat} (h : n < 2 ^ 31) (hr : rn < 2 ^ 31) : pW (nI rn) (nI n) ↔ n < rn := by
  rw [pW, Int32.le_iff_toInt_le, Int32.lt_iff_toInt_lt, nI_toInt h, nI_toInt (by omega), nI_toInt hr]; omega
theorem pD_ex {x : Int32} (h : pD x) : ∃ j, j < 120 ∧ x = nI j := by
  obtain ⟨j, h1, h2⟩ := k_rngle h.1 h.2 (by decide)
  exact ⟨j, by omega, h2⟩
theorem pW_ex {k x : Int32} {n : Nat} (h : pW k x) (hk : k = nI n) (hn : n < 2 ^ 31) : ∃ j, j < n ∧ x = nI j := by subst hk; exact k_rng h.1 h.2 hn
theorem pRD_ex {kr x : Int32} {rn : Nat} (h : pRD kr x) (hk : kr = nI rn) (hrn : rn ≤ 5) : ∃ n, n < 2 ^ 31 ∧ x = nI n ∧ n / 1000 < rn ∧ n % 1000 < 120 := by
  obtain ⟨n, h1, rfl⟩ := k_nneg h.1
  obtain ⟨_, h2, h3⟩ := h
  rw [(dm_nI h1).1, hk, pW_N (by omega) (by omega)] at h2
  rw [(dm_nI h1).2, pD_N (by omega)] at h3
  exact ⟨n, h1, rfl, h2, h3⟩
theorem pSpn_ex {x : Int32} (h : pSpn x) : ∃ n, n < 2 ^ 31 ∧ x = nI n ∧ n / 1000 < 120 ∧ n % 1000 < 120 ∧ n / 1000 ≤ n % 1000 := by
  obtain ⟨n, h1, rfl⟩ := k_nneg h.1
  obtain ⟨_, h2, h3, h4⟩ := h
  rw [(dm_nI h1).1, pD_N (by omega)] at h2
  rw [(dm_nI h1).2, pD_N (by omega)] at h3
  rw [(dm_nI h1).1, (dm_nI h1).2, Int32.le_iff_toInt_le, nI_toInt (by omega), nI_toInt (by omega)] at h4
  exact ⟨n, h1, rfl, h2, h3, by omega⟩
set_option maxHeartbeats 400000 in
theorem pX11_isRunnersDay {S : k_S} (x : Int32) : Sp 2 0 0 MX11_isRunnersDay [.ref 0, .int (x)] (hp S) (Rt (some (.int (b2i (pRD (S.1 1003) x)))) (hp S)) := by
  refine Sp_of (by decide +kernel) (Nat.le_of_ble_eq_true rfl) ?_
  show AW none MX11_isRunnersDay 2 0 0 0 [.ref 0, .int (x)] [] (hp S) _
  refine k_iload_n eX11_isRunnersDay_0 rfl ?_
  refine k_if_lt 34 eX11_isRunnersDay_1 (by decide) (fun c_1 => ?_) (fun c_1 => ?_)
  · refine k_iconst (v := nI 0) eX11_isRunnersDay_34 (by decide) ?_
    refine k_ireturn eX11_isRunnersDay_35 rfl rfl ?_
    exact ⟨rt_f (fun q => by first | exact q.1 c_1 | exact c_16 q.2.1 | exact c_27 q.2.2), rfl⟩
  refine k_aload_n eX11_isRunnersDay_4 rfl ?_
  refine GX11_71 eX11_isRunnersDay_5 rfl ?_
  refine k_iload_n eX11_isRunnersDay_8 rfl ?_
  refine k_sipush (v := nI 1000) eX11_isRunnersDay_9 (by decide) ?_
  refine k_idiv eX11_isRunnersDay_12 (by decide) ?_
  refine cV1 (M' := MX8_has) eX11_isRunnersDay_13 mX11_175 wX8_has vX8_has ⟨_, _, _, rfl, rfl, rfl⟩ rfl (pX8_has (S := S) ((x / nI 1000))) (by decide) (Nat.le_of_ble_eq_true rfl) ?_
  refine k_ifb_eq 34 eX11_isRunnersDay_16 (by decide) (fun c_16 => ?_) (fun c_16 => ?_)
  · refine k_iconst (v := nI 0) eX11_isRunnersDay_34 (by decide) ?_
    refine k_ireturn eX11_isRunnersDay_35 rfl rfl ?_
    exact ⟨rt_f (fun q => by first | exact q.1 c_1 | exact c_16 q.2.1 | exact c_27 q.2.2), rfl⟩
  refine k_iload_n eX11_isRunnersDay_19 rfl ?_
  refine k_sipush (v := nI 1000) eX11_isRunnersDay_20 (by decide) ?_
  refine k_irem eX11_isRunnersDay_23 (by decide) ?_
  refine cS1 (M' := MX11_isDay) eX11_isRunnersDay_24 mX11_122 wX11_isDay sX11_isDay rfl (pX11_isDay ((x - x / nI 1000 * nI 1000))) (by decide) (Nat.le_of_ble_eq_true rfl) ?_
  refine k_ifb_eq 34 eX11_isRunnersDay_27 (by decide) (fun c_27 => ?_) (fun c_27 => ?_)
  · refine k_iconst (v := nI 0) eX11_isRunnersDay_34 (by decide) ?_
    refine k_ireturn eX11_isRunnersDay_35 rfl rfl ?_
    exact ⟨rt_f (fun q => by first | exact q.1 c_1 | exact c_16 q.2.1 | exact c_27 q.2.2), rfl⟩
  refine k_iconst (v := nI 1) eX11_isRunnersDay_30 (by decide) ?_
  refine k_goto 35 eX11_isRunnersDay_31 (by decide) ?_
  refine k_ireturn eX11_isRunnersDay_35 rfl rfl ?_
  exact ⟨rt_t ⟨c_1, c_16, c_27⟩, rfl⟩
def aOf (V : k_V) (x : Int32) : Int32 := if pD x then V 6 (ix x) else -1
set_option maxHeartbeats 400000 in
theorem pX11_of {S : k_S} {V : k_V} (hV : vC S = V) (x : Int32) : Sp 2 0 0 MX11_of [.ref 0, .int (x)] (hp S) (Rt (some (.int (aOf V x))) (hp S)) := by
  refine Sp_of (by decide +kernel) (Nat.le_of_ble_eq_true rfl) ?_
  show AW none MX11_of 2 0 0 0 [.ref 0, .int (x)] [] (hp S) _
  refine k_iload_n eX11_of_0 rfl ?_
  refine cS1 (M' := MX11_isDay) eX11_of_1 mX11_122 wX11_isDay sX11_isDay rfl (pX11_isDay (x)) (by decide) (Nat.le_of_ble_eq_true rfl) ?_
  refine k_ifb_eq 18 eX11_of_4 (by decide) (fun c_4 => ?_) (fun c_4 => ?_)
  · refine k_iconst (v := (-1)) eX11_of_18 (by decide) ?_
    refine k_ireturn eX11_of_19 rfl rfl ?_
    exact ⟨by rw [aOf, if_neg c_4], rfl⟩
  obtain ⟨j, hj, rfl⟩ := pD_ex c_4
  refine k_aload_n eX11_of_7 rfl ?_
  refine GX11_75 eX11_of_8 rfl ?_
  refine k_iload_n eX11_of_11 rfl ?_
  refine cV1 (M' := MX2_at) eX11_of_12 mX11_161 wX2_at vX2_at ⟨_, _, _, rfl, rfl, rfl⟩ rfl (pX2_at (S := S) (j := j) (by omega)) (by decide) (Nat.le_of_ble_eq_true rfl) ?_
  refine k_topi ((V 6 j)) (congrFun (congrFun hV 6) _) ?_
  refine k_goto 19 eX11_of_15 (by decide) ?_
  refine k_ireturn eX11_of_19 rfl rfl ?_
  exact ⟨by rw [aOf, if_pos c_4, ix_nI (by omega)], rfl⟩
def aFit (V : k_V) (kr x w : Int32) : Int32 := if pRD kr x ∧ pIn w (nI 0) (nI 2) then (if w = 0 then fitv V (rrN x) (ddN x) else if w = nI 1 then sSum V (rrN x) (ddN x) (ddN x + 1) else tSum V (rrN x) (ddN x) (ddN x + 1)) else -2000000000
set_option maxHeartbeats 400000 in
theorem pX11_fit {S : k_S} {V : k_V} (hV : vC S = V) (hpl : PlanOk V) {rn : Nat} (hrn : S.1 1003 = nI rn) (hrn5 : rn ≤ 5) (x w : Int32) : Sp 3 0 0 MX11_fit [.ref 0, .int (x), .int (w)] (hp S) (Rt (some (.int (aFit V (S.1 1003) x w))) (hp S)) := by
  refine Sp_of (by decide +kernel) (Nat.le_of_ble_eq_true rfl) ?_
  show AW none MX11_fit 3 0 0 0 [.ref 0, .int (x), .int (w), .null, .null] [] (hp S) _
  refine k_aload_n eX11_fit_0 rfl ?_
  refine k_iload_n eX11_fit_1 rfl ?_
  refine cV1 (M' := MX11_isRunnersDay) eX11_fit_2 mX11_165 wX11_isRunnersDay vX11_isRunnersDay ⟨_, _, _, rfl, rfl, rfl⟩ rfl (pX11_isRunnersDay (S := S) (x)) (by decide) (Nat.le_of_ble_eq_true rfl) ?_
  refine k_ifb_eq 17 eX11_fit_5 (by decide) (fun c_5 => ?_) (fun c_5 => ?_)
  · refine k_ldc eX11_fit_17 kX11_168 rfl ?_
    refine k_ireturn eX11_fit_19 rfl rfl ?_
    exact ⟨by rw [aFit, if_neg (fun q => by first | exact c_5 q.1 | exact c_14 q.2)], rfl⟩
  refine k_iload_n eX11_fit_8 rfl ?_
  refine k_iconst (v := nI 0) eX11_fit_9 (by decide) ?_
  refine k_iconst (v := nI 2) eX11_fit_10 (by decide) ?_
  refine cS1 (M' := MX11_within) eX11_fit_11 mX11_114 wX11_within sX11_within rfl (pX11_within (w) (nI 0) (nI 2)) (by decide) (Nat.le_of_ble_eq_true rfl) ?_
  refine k_ifb_ne 20 eX11_fit_14 (by decide) (fun c_14 => ?_) (fun c_14 => ?_)
  · obtain ⟨z, hz31, rfl, hzr, hzd⟩ := pRD_ex c_5 hrn hrn5
    refine k_aload_n eX11_fit_20 rfl ?_
    refine GX11_83 eX11_fit_21 rfl ?_
    refine k_iload_n eX11_fit_24 rfl ?_
    refine k_sipush (v := nI 1000) eX11_fit_25 (by decide) ?_
    refine k_idivN eX11_fit_28 (by omega) (by omega) (by omega) ?_
    refine k_iload_n eX11_fit_29 rfl ?_
    refine k_sipush (v := nI 1000) eX11_fit_30 (by decide) ?_
    refine k_iremN eX11_fit_33 (by omega) (by omega) (by omega) ?_
    refine k_iload_n eX11_fit_34 rfl ?_
    refine k_sipush (v := nI 1000) eX11_fit_35 (by decide) ?_
    refine k_iremN eX11_fit_38 (by omega) (by omega) (by omega) ?_
    refine cV1 (M' := MX3_strongBy) eX11_fit_39 mX11_169 wX3_strongBy vX3_strongBy ⟨_, _, _, rfl, rfl, rfl⟩ rfl (pX3_strongBy (S := S) (V := V) (r := (z / 1000)) (day := (z % 1000)) (n0 := (z % 1000 + 1)) hV hpl (by omega) (by omega) (by omega) (to_of (by omega))) (by decide) (Nat.le_of_ble_eq_true rfl) ?_
    refine k_istore_n (L2 := [_, _, _, _, _]) eX11_fit_42 (Nat.le_of_ble_eq_true rfl) rfl ?_
    refine k_aload_n eX11_fit_43 rfl ?_
    refine GX11_83 eX11_fit_44 rfl ?_
    refine k_iload_n eX11_fit_47 rfl ?_
    refine k_sipush (v := nI 1000) eX11_fit_48 (by decide) ?_
    refine k_idivN eX11_fit_51 (by omega) (by omega) (by omega) ?_
    refine k_iload_n eX11_fit_52 rfl ?_
    refine k_sipush (v := nI 1000) eX11_fit_53 (by decide) ?_
    refine k_iremN eX11_fit_56 (by omega) (by omega) (by omega) ?_
    refine k_iload_n eX11_fit_57 rfl ?_
    refine k_sipush (v := nI 1000) eX11_fit_58 (by decide) ?_
    refine k_iremN eX11_fit_61 (by omega) (by omega) (by omega) ?_
    refine cV1 (M' := MX3_tiredBy) eX11_fit_62 mX11_172 wX3_tiredBy vX3_tiredBy ⟨_, _, _, rfl, rfl, rfl⟩ rfl (pX3_tiredBy (S := S) (V := V) (r := (z / 1000)) (day := (z % 1000)) (n0 := (z % 1000 + 1)) hV hpl (by omega) (by omega) (by omega) (to_of (by omega))) (by decide) (Nat.le_of_ble_eq_true rfl) ?_
    refine k_istore (L2 := [_, _, _, _, _]) eX11_fit_65 (Nat.le_of_ble_eq_true rfl) rfl ?_
    refine k_iload_n eX11_fit_67 rfl ?_
    refine k_if_ne 76 eX11_fit_68 (by decide) (fun c_68 => ?_) (fun c_68 => ?_)
    · refine k_iload_n eX11_fit_76 rfl ?_
      refine k_iconst (v := nI 1) eX11_fit_77 (by decide) ?_
      refine k_icmp_ne 85 eX11_fit_78 (by decide) (fun c_78 => ?_) (fun c_78 => ?_)
      · refine k_iload eX11_fit_85 rfl ?_
        refine k_ireturn eX11_fit_87 rfl rfl ?_
        exact ⟨by rw [aFit, if_pos ⟨c_5, c_14⟩, rrN_nI hz31, ddN_nI hz31, if_neg c_68, if_neg c_78], rfl⟩
      refine k_iload_n eX11_fit_81 rfl ?_
      refine k_goto 87 eX11_fit_82 (by decide) ?_
      refine k_ireturn eX11_fit_87 rfl rfl ?_
      exact ⟨by rw [aFit, if_pos ⟨c_5, c_14⟩, rrN_nI hz31, ddN_nI hz31, if_neg c_68, if_pos c_78], rfl⟩
    refine k_iload_n eX11_fit_71 rfl ?_
    refine k_iload eX11_fit_72 rfl ?_
    refine k_isub eX11_fit_74 ?_
    refine k_ireturn eX11_fit_75 rfl rfl ?_
    exact ⟨by rw [aFit, if_pos ⟨c_5, c_14⟩, rrN_nI hz31, ddN_nI hz31, if_pos c_68]; rfl, rfl⟩
  refine k_ldc eX11_fit_17 kX11_168 rfl ?_
  refine k_ireturn eX11_fit_19 rfl rfl ?_
  exact ⟨by rw [aFit, if_neg (fun q => by first | exact c_5 q.1 | exact c_14 q.2)], rfl⟩
def aPts (V : k_V) (kr kw r w k : Int32) : Int32 := if pW kr r ∧ pW kw w ∧ pD k then pts V (ix r) (ix w) (ix k) else -2000000000
set_option maxHeartbeats 400000 in
theorem pX11_points {S : k_S} {V : k_V} (hV : vC S = V) {rn : Nat} (hrn : S.1 1003 = nI rn) (hrn5 : rn ≤ 5) {wk : Nat} (hwk : S.1 803 = nI wk) (hwk1 : 1 ≤ wk) (hwk6 : wk ≤ 6) (x y z : Int32) : Sp 3 0 0 MX11_points [.ref 0, .int (x), .int (y), .int (z)] (hp S) (Rt (some (.int (aPts V (S.1 1003) (S.1 803) x y z))) (hp S)) := by
  refine Sp_of (by decide +kernel) (Nat.le_of_ble_eq_true rfl) ?_
  show AW none MX11_points 3 0 0 0 [.ref 0, .int (x), .int (y), .int (z)] [] (hp S) _
  refine k_aload_n eX11_points_0 rfl ?_
  refine GX11_71 eX11_points_1 rfl ?_
  refine k_iload_n eX11_points_4 rfl ?_
  refine cV1 (M' := MX8_has) eX11_points_5 mX11_175 wX8_has vX8_has ⟨_, _, _, rfl, rfl, rfl⟩ rfl (pX8_has (S := S) (x)) (by decide) (Nat.le_of_ble_eq_true rfl) ?_
  refine k_ifb_eq 29 eX11_points_8 (by decide) (fun c_8 => ?_) (fun c_8 => ?_)
  · refine k_ldc eX11_points_29 kX11_168 rfl ?_
    refine k_ireturn eX11_points_31 rfl rfl ?_
    exact ⟨by rw [aPts, if_neg (fun q => by first | exact c_8 q.1 | exact c_19 q.2.1 | exact c_26 q.2.2)], rfl⟩
  refine k_aload_n eX11_points_11 rfl ?_
  refine GX11_67 eX11_points_12 rfl ?_
  refine k_iload_n eX11_points_15 rfl ?_
  refine cV1 (M' := MX10_has) eX11_points_16 mX11_110 wX10_has vX10_has ⟨_, _, _, rfl, rfl, rfl⟩ rfl (pX10_has (S := S) (y)) (by decide) (Nat.le_of_ble_eq_true rfl) ?_
  refine k_ifb_eq 29 eX11_points_19 (by decide) (fun c_19 => ?_) (fun c_19 => ?_)
  · refine k_ldc eX11_points_29 kX11_168 rfl ?_
    refine k_ireturn eX11_points_31 rfl rfl ?_
    exact ⟨by rw [aPts, if_neg (fun q => by first | exact c_8 q.1 | exact c_19 q.2.1 | exact c_26 q.2.2)], rfl⟩
  refine k_iload_n eX11_points_22 rfl ?_
  refine cS1 (M' := MX11_isDay) eX11_points_23 mX11_122 wX11_isDay sX11_isDay rfl (pX11_isDay (z)) (by decide) (Nat.le_of_ble_eq_true rfl) ?_
  refine k_ifb_ne 32 eX11_points_26 (by decide) (fun c_26 => ?_) (fun c_26 => ?_)
  · obtain ⟨r, hr, rfl⟩ := pW_ex c_8 hrn (by omega)
    obtain ⟨w, hw, rfl⟩ := pW_ex c_19 hwk (by omega)
    obtain ⟨k, hk, rfl⟩ := pD_ex c_26
    refine k_aload_n eX11_points_32 rfl ?_
    refine GX11_83 eX11_points_33 rfl ?_
    refine k_iload_n eX11_points_36 rfl ?_
    refine k_iload_n eX11_points_37 rfl ?_
    refine k_iload_n eX11_points_38 rfl ?_
    refine cV1 (M' := MX3_brought) eX11_points_39 mX11_176 wX3_brought vX3_brought ⟨_, _, _, rfl, rfl, rfl⟩ rfl (pX3_brought (S := S) (V := V) (r := r) (w := w) (k := k) hV (by omega) (by omega) (by omega)) (by decide) (Nat.le_of_ble_eq_true rfl) ?_
    refine k_ireturn eX11_points_42 rfl rfl ?_
    exact ⟨by rw [aPts, if_pos ⟨c_8, c_19, c_26⟩, ix_nI (by omega), ix_nI (by omega), ix_nI (by omega)], rfl⟩
  refine k_ldc eX11_points_29 kX11_168 rfl ?_
  refine k_ireturn eX11_points_31 rfl rfl ?_
  exact ⟨by rw [aPts, if_neg (fun q => by first | exact c_8 q.1 | exact c_19 q.2.1 | exact c_26 q.2.2)], rfl⟩
def aWor (V : k_V) (dn : Nat) (kr kw x w : Int32) : Int32 := if pRD kr x ∧ pW kw w then wor V dn (rrN x) (ix w) (ddN x) else -2000000000
def aGai (V : k_V) (dn : Nat) (kr x : Int32) : Int32 := if pW kr x then gai V dn (ix x) 120 else -2000000000
def aLed (V : k_V) (kr x : Int32) : Int32 := if pRD kr x then (ld V (rrN x) (ddN x) (ddN x + 1)).1 else -1
set_option maxHeartbeats 400000 in
theorem pX11_led {S : k_S} {V : k_V} (hV : vC S = V) (hpl : PlanOk V) {rn : Nat} (hrn : S.1 1003 = nI rn) (hrn5 : rn ≤ 5) (x : Int32) : Sp 4 0 0 MX11_led [.ref 0, .int (x)] (hp S) (Rt (some (.int (aLed V (S.1 1003) x))) (hp S)) := by
  refine Sp_of (by decide +kernel) (Nat.le_of_ble_eq_true rfl) ?_
  show AW none MX11_led 4 0 0 0 [.ref 0, .int (x)] [] (hp S) _
  refine k_aload_n eX11_led_0 rfl ?_
  refine k_iload_n eX11_led_1 rfl ?_
  refine cV1 (M' := MX11_isRunnersDay) eX11_led_2 mX11_165 wX11_isRunnersDay vX11_isRunnersDay ⟨_, _, _, rfl, rfl, rfl⟩ rfl (pX11_isRunnersDay (S := S) (x)) (by decide) (Nat.le_of_ble_eq_true rfl) ?_
  refine k_ifb_eq 28 eX11_led_5 (by decide) (fun c_5 => ?_) (fun c_5 => ?_)
  · refine k_iconst (v := (-1)) eX11_led_28 (by decide) ?_
    refine k_ireturn eX11_led_29 rfl rfl ?_
    exact ⟨by rw [aLed, if_neg c_5], rfl⟩
  obtain ⟨z, hz31, rfl, hzr, hzd⟩ := pRD_ex c_5 hrn hrn5
  refine k_aload_n eX11_led_8 rfl ?_
  refine GX11_83 eX11_led_9 rfl ?_
  refine k_iload_n eX11_led_12 rfl ?_
  refine k_sipush (v := nI 1000) eX11_led_13 (by decide) ?_
  refine k_idivN eX11_led_16 (by omega) (by omega) (by omega) ?_
  refine k_iload_n eX11_led_17 rfl ?_
  refine k_sipush (v := nI 1000) eX11_led_18 (by decide) ?_
  refine k_iremN eX11_led_21 (by omega) (by omega) (by omega) ?_
  refine cV1 (M' := MX3_leadingDay) eX11_led_22 mX11_202 wX3_leadingDay vX3_leadingDay ⟨_, _, _, rfl, rfl, rfl⟩ rfl (pX3_leadingDay (S := S) (V := V) (r := (z / 1000)) (day := (z % 1000)) hV hpl (by omega) (by omega)) (by decide) (Nat.le_of_ble_eq_true rfl) ?_
  refine k_goto 29 eX11_led_25 (by decide) ?_
  refine k_ireturn eX11_led_29 rfl rfl ?_
  exact ⟨by rw [aLed, if_pos c_5, rrN_nI hz31, ddN_nI hz31], rfl⟩
