def jN (n : Nat) : Int64 := (nI n).toInt64
theorem jN_toInt {n : Nat} (h : n < 2 ^ 31) : (jN n).toInt = n := by rw [jN, Int32.toInt_toInt64, nI_toInt h]
theorem bmod64 {x : Int} (h1 : 0 ≤ x) (h2 : x < 2 ^ 62) : x.bmod (2 ^ 64) = x := Int.bmod_eq_of_le (by omega) (by omega)
theorem jN_mul {a b : Nat} (ha : a < 2 ^ 31) (hb : b < 2 ^ 31) (h : a * b < 2 ^ 31) : jN a * jN b = jN (a * b) := by
  apply Int64.toInt_inj.mp
  rw [Int64.toInt_mul, jN_toInt ha, jN_toInt hb, jN_toInt h, ← Int.natCast_mul]
  exact bmod64 (by omega) (by omega)
theorem jN_div {a k : Nat} (ha : a < 2 ^ 31) (hk0 : 0 < k) (hk : k < 2 ^ 31) : jN a / jN k = jN (a / k) := by
  apply Int64.toInt_inj.mp
  have hl : a / k < 2 ^ 31 := Nat.lt_of_le_of_lt (Nat.div_le_self a k) ha
  rw [Int64.toInt_div, jN_toInt ha, jN_toInt hk, jN_toInt hl, ← Int.ofNat_tdiv]
  generalize a / k = q at hl ⊢
  exact bmod64 (by omega) (by omega)
theorem jN_step {w k : Nat} (hw : w ≤ 1000000) (hk : k ≤ 1000) : jN w * (nI k).toInt64 / 1000 = jN (w * k / 1000) := by
  have hm : w * k ≤ 1000000 * 1000 := Nat.mul_le_mul hw hk
  show jN w * jN k / jN 1000 = _
  rw [jN_mul (by omega) (by omega) (by omega), jN_div (by omega) (by decide) (by decide)]
theorem jN_32 {n : Nat} (h : n < 2 ^ 31) : (jN n).toInt32 = nI n := by
  apply Int32.toInt_inj.mp
  rw [Int64.toInt_toInt32, jN_toInt h, nI_toInt h]
  exact Int.bmod_eq_of_le (by omega) (by omega)
theorem clp_c (v : Int32) : nI (clp v) = if v < 0 then nI 0 else if nI 1000 < v then nI 1000 else v := by
  rw [← (clp_eq v).1]
  unfold mx mn
  simp only [Int32.lt_iff_toInt_lt, show (nI 0).toInt = 0 from by decide, show (nI 1000).toInt = 1000 from by decide, show (0 : Int32).toInt = 0 from by decide]
  by_cases c1 : v.toInt < 0
  · rw [if_pos c1, if_pos (show v.toInt < 1000 by omega), if_neg (by omega)]
  · rw [if_neg c1]
    by_cases c2 : v.toInt < 1000
    · rw [if_pos c2]
      by_cases c3 : 0 < v.toInt
      · rw [if_pos c3, if_neg (show ¬ 1000 < v.toInt by omega)]
      · rw [if_neg c3, if_neg (show ¬ 1000 < v.toInt by omega)]
        apply Int32.toInt_inj.mp
        rw [show (nI 0).toInt = 0 from by decide]; omega
    · rw [if_neg c2, if_pos (show 0 < (nI 1000).toInt from by decide)]
      by_cases c3 : 1000 < v.toInt
      · rw [if_pos c3]
      · rw [if_neg c3]
        apply Int32.toInt_inj.mp
        rw [show (nI 1000).toInt = 1000 from by decide]; omega
theorem fst0_z {g : Nat → Int32} (h : ∀ d, g d = 0) : ∀ k j, fst0 g j k = -2
  | 0, _ => rfl
  | k + 1, j => by rw [fst0, if_pos (h j)]; exact fst0_z h k (j + 1)

set_option maxHeartbeats 400000 in
theorem pX12_riskOf {S : k_S} {V : k_V} (hV : vM S = V) {dn : Nat} (hdn : S.1 2611 = nI dn) (hcd : CntOk V dn) (hpl : PlanOk V) {r dd : Nat} (hr : r < 5) (hdd2 : dd < 120) {T : List Int32} (hT : TxM S 0 T) : Sp 4 0 0 MX12_riskOf [.ref 52, .int (nI r), .int (nI dd)] (hp S) (Rx (some (.int (nI (rsk V dn r T dd)))) (fun S' => Frm [] [81, 82] [] S S')) := by
  refine Sp_of (by decide +kernel) (Nat.le_of_ble_eq_true rfl) ?_
  show AW none MX12_riskOf 4 0 0 0 [.ref 52, .int (nI r), .int (nI dd), .null] [] (hp S) _
  have hTl := hT.2.1
  refine k_aload_n eX12_riskOf_0 rfl ?_
  refine GX12_53 eX12_riskOf_1 rfl ?_
  refine k_iconst (v := nI 0) eX12_riskOf_4 (by decide) ?_
  refine k_ialdN (j := 0) eX12_riskOf_5 (ar66 _) (by omega) (Nat.le_of_ble_eq_true rfl) ?_
  refine k_topi (nI (T.length)) hT.1 ?_
  refine k_if_neN 13 eX12_riskOf_6 (by decide) (by omega) (fun c_6 => ?_) (fun c_6 => ?_)
  · refine k_aload_n eX12_riskOf_13 rfl ?_
    refine k_iconst (v := nI 0) eX12_riskOf_14 (by decide) ?_
    refine k_iload_n eX12_riskOf_15 rfl ?_
    refine k_iload_n eX12_riskOf_16 rfl ?_
    refine cVX1 (M' := MX12_asksOf) eX12_riskOf_17 mX12_272 wX12_asksOf vX12_asksOf ⟨_, _, _, rfl, rfl, rfl⟩ rfl (pX12_asksOf (S := S) (V := V) (dn := dn) (q := 0) (r := r) (dd := dd) hV hdn hcd hpl (by omega) (by omega) (by omega) (T := T) hT) (by decide) (Nat.le_of_ble_eq_true rfl) ?_
    intro U fu
    refine k_istore_n (L2 := [_, _, _, _]) eX12_riskOf_20 (Nat.le_of_ble_eq_true rfl) rfl ?_
    refine k_iload_n eX12_riskOf_21 rfl ?_
    refine k_if_ge 29 eX12_riskOf_22 (by decide) (fun c_22 => ?_) (fun c_22 => ?_)
    · refine k_iload_n eX12_riskOf_29 rfl ?_
      refine k_sipush (v := nI 1000) eX12_riskOf_30 (by decide) ?_
      refine k_icmp_le 42 eX12_riskOf_33 (by decide) (fun c_33 => ?_) (fun c_33 => ?_)
      · refine k_iload_n eX12_riskOf_42 rfl ?_
        refine k_ireturn eX12_riskOf_43 rfl rfl ?_
        exact ⟨by rw [rsk, clp_c, if_neg (Int32.not_lt.mpr c_22), if_neg (Int32.not_lt.mpr c_33)], U, rfl, fu⟩
      refine k_sipush (v := nI 1000) eX12_riskOf_36 (by decide) ?_
      refine k_goto 43 eX12_riskOf_39 (by decide) ?_
      refine k_ireturn eX12_riskOf_43 rfl rfl ?_
      exact ⟨by rw [rsk, clp_c, if_neg (Int32.not_lt.mpr c_22), if_pos (Int32.not_le.mp c_33)], U, rfl, fu⟩
    refine k_iconst (v := nI 0) eX12_riskOf_25 (by decide) ?_
    refine k_goto 43 eX12_riskOf_26 (by decide) ?_
    refine k_ireturn eX12_riskOf_43 rfl rfl ?_
    exact ⟨by rw [rsk, clp_c, if_pos (Int32.not_le.mp c_22)], U, rfl, fu⟩
  refine k_iconst (v := nI 0) eX12_riskOf_9 (by decide) ?_
  refine k_goto 20 eX12_riskOf_10 (by decide) ?_
  refine k_istore_n (L2 := [_, _, _, _]) eX12_riskOf_20 (Nat.le_of_ble_eq_true rfl) rfl ?_
  refine k_iload_n eX12_riskOf_21 rfl ?_
  refine k_if_geN 29 eX12_riskOf_22 (by decide) (by omega) ?_
  refine k_iload_n eX12_riskOf_29 rfl ?_
  refine k_sipush (v := nI 1000) eX12_riskOf_30 (by decide) ?_
  refine k_icmp_leN 42 eX12_riskOf_33 (by decide) (by omega) (by omega) (fun c_33 => ?_) (fun c_33 => by exfalso; omega)
  refine k_iload_n eX12_riskOf_42 rfl ?_
  refine k_ireturn eX12_riskOf_43 rfl rfl ?_
  exact ⟨by rw [show T = [] from len0 c_6, rsk, show gv (nmV V dn r dd) [] false [] = nI 0 from rfl, show clp (nI 0) = 0 from by decide], S, rfl, Frm.rf S⟩
set_option maxHeartbeats 400000 in
theorem lX12_risksTo {d0 : Nat} (hdd : 5 ≤ d0) {S0 : k_S} {V : k_V} (hV : vM S0 = V) {dn : Nat} (hdn : S0.1 2611 = nI dn) (hcd : CntOk V dn) (hpl : PlanOk V) {r la : Nat} (hr : r < 5) (hla : la < 120) {T : List Int32} (hT : TxM S0 0 T) : ∀ (k j : Nat) (S : k_S), j + k = la + 1 → (∀ i, i < j → S.2.1 83 i = nI (rsk V dn r T i)) → (∀ i, i < j + 1 → S.2.2 84 i = jN (whl V dn r T i)) → (Frm [] [81, 82, 83] [84] S0 S) → AW none MX12_risksTo d0 0 0 11 [.ref 52, .int (nI r), .int (nI la), .int (nI j)] [] (hp S) (Rx none (fun S' => (∀ i, i < la + 1 → S'.2.1 83 i = nI (rsk V dn r T i)) ∧ (∀ i, i < la + 2 → S'.2.2 84 i = jN (whl V dn r T i)) ∧ Frm [] [81, 82, 83] [84] S0 S')) := by
  intro k
  induction k with
  | zero =>
    intro j S hj h83 h84 f0
    have ej : j = la + 1 := by omega
    subst ej
    refine k_iload_n eX12_risksTo_11 rfl ?_
    refine k_iload_n eX12_risksTo_12 rfl ?_
    refine k_icmp_gtN 64 eX12_risksTo_13 (by decide) (by omega) (by omega) (fun c_13 => ?_) (fun c_13 => by exfalso; omega)
    refine k_return eX12_risksTo_64 rfl ?_
    exact ⟨rfl, S, rfl, h83, h84, f0⟩
  | succ k ih =>
    intro j S hj h83 h84 f0
    have hrk := rsk_le V dn r T j
    have hwl := whl_le V dn r T j
    have hV1 : vM S = V := (f0.M (by decide)).trans hV
    have hdn1 : S.1 2611 = nI dn := (f0.1 2611 (by decide)).trans hdn
    have hT1 : TxM S 0 T := hT.fr f0 (by decide) (by decide)
    refine k_iload_n eX12_risksTo_11 rfl ?_
    refine k_iload_n eX12_risksTo_12 rfl ?_
    refine k_icmp_gtN 64 eX12_risksTo_13 (by decide) (by omega) (by omega) (fun c_13 => by exfalso; omega) (fun c_13 => ?_)
    refine k_aload_n eX12_risksTo_16 rfl ?_
    refine GX12_108 eX12_risksTo_17 rfl ?_
    refine k_iload_n eX12_risksTo_20 rfl ?_
    refine k_aload_n eX12_risksTo_21 rfl ?_
    refine k_iload_n eX12_risksTo_22 rfl ?_
    refine k_iload_n eX12_risksTo_23 rfl ?_
    refine cVX1 (M' := MX12_riskOf) eX12_risksTo_24 mX12_277 wX12_riskOf vX12_riskOf ⟨_, _, _, rfl, rfl, rfl⟩ rfl (pX12_riskOf (S := S) (V := V) (dn := dn) (r := r) (dd := j) hV1 hdn1 hcd hpl (by omega) (by omega) (T := T) hT1) (by omega) (Nat.le_of_ble_eq_true rfl) ?_
    intro U fu
    refine k_iastN (j := j) eX12_risksTo_27 (ar83 _) (by omega) (Nat.le_of_ble_eq_true rfl) (as83 _ _) ?_
    refine k_aload_n eX12_risksTo_28 rfl ?_
    refine GX12_111 eX12_risksTo_29 rfl ?_
    refine k_iload_n eX12_risksTo_32 rfl ?_
    refine k_iconst (v := nI 1) eX12_risksTo_33 (by decide) ?_
    refine k_iaddN eX12_risksTo_34 ?_
    refine k_aload_n eX12_risksTo_35 rfl ?_
    refine GX12_111 eX12_risksTo_36 rfl ?_
    refine k_iload_n eX12_risksTo_39 rfl ?_
    refine k_laldN (j := j) eX12_risksTo_40 (ar84 _) (by omega) (Nat.le_of_ble_eq_true rfl) ?_
    refine k_topl ((jN (whl V dn r T j))) ((congrFun (show (sa U 83 _).2.2 84 = S.2.2 84 from fu.2.2 84 (by decide)) j).trans (h84 j (by omega))) ?_
    refine k_sipush (v := nI 1000) eX12_risksTo_41 (by decide) ?_
    refine k_aload_n eX12_risksTo_44 rfl ?_
    refine GX12_108 eX12_risksTo_45 rfl ?_
    refine k_iload_n eX12_risksTo_48 rfl ?_
    refine k_ialdN (j := j) eX12_risksTo_49 (ar83 _) (by omega) (Nat.le_of_ble_eq_true rfl) ?_
    refine k_topi (nI (rsk V dn r T j)) (by rw [sa_at, va_a1]) ?_
    refine k_isubN eX12_risksTo_50 (by omega) ?_
    refine k_i2l eX12_risksTo_51 ?_
    refine k_lmul eX12_risksTo_52 ?_
    refine k_ldc2 eX12_risksTo_53 kX12_280 rfl ?_
    refine k_ldiv eX12_risksTo_56 (by decide) ?_
    refine k_topl ((jN (whl V dn r T (j + 1)))) (jN_step hwl (by omega)) ?_
    refine k_lastN (j := (j + 1)) eX12_risksTo_57 (ar84 _) (by omega) (Nat.le_of_ble_eq_true rfl) (as84 _ _) ?_
    refine k_iincN (g := 1) (a := j) (L2 := [_, _, _, _]) eX12_risksTo_58 (Nat.le_of_ble_eq_true rfl) rfl rfl ?_
    refine k_goto 11 eX12_risksTo_61 (by decide) ?_
    refine ih (j + 1) _ (by omega) (fun i hi => ?_) (fun i hi => ?_) ((f0.tr (((fu.wk (by decide) (by decide) (by decide)).sa (by decide) _).sj (by decide) _)))
    · show va_up (U.2.1 83) j _ i = _
      by_cases hij : i = j
      · subst hij; rw [va_a1]
      · rw [va_ne _ _ hij]; exact (congrFun (fu.2.1 83 (by decide)) i).trans (h83 i (by omega))
    · show va_up (U.2.2 84) (j + 1) _ i = _
      by_cases hij : i = j + 1
      · subst hij; exact if_pos rfl
      · exact (if_neg hij).trans ((congrFun (fu.2.2 84 (by decide)) i).trans (h84 i (by omega)))
set_option maxHeartbeats 400000 in
theorem pX12_risksTo {S : k_S} {V : k_V} (hV : vM S = V) {dn : Nat} (hdn : S.1 2611 = nI dn) (hcd : CntOk V dn) (hpl : PlanOk V) {r la : Nat} (hr : r < 5) (hla : la < 120) {T : List Int32} (hT : TxM S 0 T) : Sp 5 0 0 MX12_risksTo [.ref 52, .int (nI r), .int (nI la)] (hp S) (Rx none (fun S' => (∀ i, i < la + 1 → S'.2.1 83 i = nI (rsk V dn r T i)) ∧ (∀ i, i < la + 2 → S'.2.2 84 i = jN (whl V dn r T i)) ∧ Frm [] [81, 82, 83] [84] S S')) := by
  refine Sp_of (by decide +kernel) (Nat.le_of_ble_eq_true rfl) ?_
  show AW none MX12_risksTo 5 0 0 0 [.ref 52, .int (nI r), .int (nI la), .null] [] (hp S) _
  refine k_aload_n eX12_risksTo_0 rfl ?_
  refine GX12_111 eX12_risksTo_1 rfl ?_
  refine k_iconst (v := nI 0) eX12_risksTo_4 (by decide) ?_
  refine k_ldc2 eX12_risksTo_5 kX12_275 rfl ?_
  refine k_lastN (j := 0) eX12_risksTo_8 (ar84 _) (by omega) (Nat.le_of_ble_eq_true rfl) (as84 _ _) ?_
  refine k_iconst (v := nI 0) eX12_risksTo_9 (by decide) ?_
  refine k_istore_n (L2 := [_, _, _, _]) eX12_risksTo_10 (Nat.le_of_ble_eq_true rfl) rfl ?_
  exact lX12_risksTo (by decide) hV hdn hcd hpl hr hla hT (la + 1) 0 _ (by omega) (fun i hi => absurd hi (by omega)) (fun i hi => by rw [show i = 0 by omega]; show va_up (S.2.2 84) 0 (1000000 : Int64) 0 = jN 1000000; rw [show va_up (S.2.2 84) 0 (1000000 : Int64) 0 = 1000000 from if_pos rfl]; decide) ((Frm.rf S).sj (by decide) _)
set_option maxHeartbeats 400000 in
theorem pX12_risk {S : k_S} {V : k_V} (hV : vM S = V) {dn : Nat} (hdn : S.1 2611 = nI dn) (hcd : CntOk V dn) (hpl : PlanOk V) {rn : Nat} (hrn : S.1 2604 = nI rn) (hrn5 : rn ≤ 5) {T : List Int32} (hT : TxM S 0 T) (x w : Int32) : Sp 6 0 0 MX12_risk [.ref 52, .int (x), .int (w)] (hp S) (Rx (some (.int (aRsk V dn T (S.1 2604) x w))) (fun S' => Frm [] [81, 82, 83] [84] S S')) := by
  refine Sp_of (by decide +kernel) (Nat.le_of_ble_eq_true rfl) ?_
  show AW none MX12_risk 6 0 0 0 [.ref 52, .int (x), .int (w), .null] [] (hp S) _
  refine k_aload_n eX12_risk_0 rfl ?_
  refine k_iload_n eX12_risk_1 rfl ?_
  refine cV1 (M' := MX12_isBoth) eX12_risk_2 mX12_175 wX12_isBoth vX12_isBoth ⟨_, _, _, rfl, rfl, rfl⟩ rfl (pX12_isBoth (S := S) (rn := rn) hrn hrn5 (x)) (by decide) (Nat.le_of_ble_eq_true rfl) ?_
  refine k_ifb_eq 17 eX12_risk_5 (by decide) (fun c_5 => ?_) (fun c_5 => ?_)
  · refine k_iconst (v := (-1)) eX12_risk_17 (by decide) ?_
    refine k_ireturn eX12_risk_18 rfl rfl ?_
    exact ⟨by rw [aRsk, if_neg (fun q => by first | exact c_5 q.1 | exact c_14 q.2)], S, rfl, Frm.rf S⟩
  refine k_iload_n eX12_risk_8 rfl ?_
  refine k_iconst (v := nI 0) eX12_risk_9 (by decide) ?_
  refine k_iconst (v := nI 2) eX12_risk_10 (by decide) ?_
  refine cS1 (M' := MX12_in) eX12_risk_11 mX12_120 wX12_in sX12_in rfl (pX12_in (w) (nI 0) (nI 2)) (by decide) (Nat.le_of_ble_eq_true rfl) ?_
  refine k_ifb_ne 19 eX12_risk_14 (by decide) (fun c_14 => ?_) (fun c_14 => ?_)
  · obtain ⟨z, hz31, rfl, hzr, hzd⟩ := pRD_ex c_5 hrn hrn5
    obtain ⟨q, hq, rfl⟩ := k_rngle c_14.1 c_14.2 (by decide)
    have hrk := rsk_le V dn (z / 1000) T (z % 1000)
    have hwl := whl_le V dn (z / 1000) T (z % 1000)
    have hwl2 := whl_le V dn (z / 1000) T (z % 1000 + 1)
    have hfl : fsO V dn (z / 1000) T (z % 1000) ≤ 1000000 := by
      have := whl_s V dn (z / 1000) T (z % 1000); omega
    refine k_iload_n eX12_risk_19 rfl ?_
    refine k_sipush (v := nI 1000) eX12_risk_20 (by decide) ?_
    refine k_iremN eX12_risk_23 (by omega) (by omega) (by omega) ?_
    refine k_istore_n (L2 := [_, _, _, _]) eX12_risk_24 (Nat.le_of_ble_eq_true rfl) rfl ?_
    refine k_iload_n eX12_risk_25 rfl ?_
    refine k_if_neN 40 eX12_risk_26 (by decide) (by omega) (fun c_26 => ?_) (fun c_26 => ?_)
    · refine k_aload_n eX12_risk_40 rfl ?_
      refine k_iload_n eX12_risk_41 rfl ?_
      refine k_sipush (v := nI 1000) eX12_risk_42 (by decide) ?_
      refine k_idivN eX12_risk_45 (by omega) (by omega) (by omega) ?_
      refine k_iload_n eX12_risk_46 rfl ?_
      refine cVX0 (v := .null) (M' := MX12_risksTo) eX12_risk_47 mX12_282 wX12_risksTo vX12_risksTo ⟨_, _, _, rfl, rfl, rfl⟩ rfl (pX12_risksTo (S := S) (V := V) (dn := dn) (r := (z / 1000)) (la := (z % 1000)) hV hdn hcd hpl (by omega) (by omega) (T := T) hT) (by decide) (Nat.le_of_ble_eq_true rfl) ?_
      rintro U ⟨h83, h84, fu⟩
      refine k_iload_n eX12_risk_50 rfl ?_
      refine k_iconst (v := nI 1) eX12_risk_51 (by decide) ?_
      refine k_icmp_neN 70 eX12_risk_52 (by decide) (by omega) (by omega) (fun c_52 => ?_) (fun c_52 => ?_)
      · refine k_aload_n eX12_risk_70 rfl ?_
        refine GX12_111 eX12_risk_71 rfl ?_
        refine k_iload_n eX12_risk_74 rfl ?_
        refine k_laldN (j := (z % 1000)) eX12_risk_75 (ar84 _) (by omega) (Nat.le_of_ble_eq_true rfl) ?_
        refine k_topl ((jN (whl V dn (z / 1000) T (z % 1000)))) (h84 _ (by omega)) ?_
        refine k_aload_n eX12_risk_76 rfl ?_
        refine GX12_108 eX12_risk_77 rfl ?_
        refine k_iload_n eX12_risk_80 rfl ?_
        refine k_ialdN (j := (z % 1000)) eX12_risk_81 (ar83 _) (by omega) (Nat.le_of_ble_eq_true rfl) ?_
        refine k_topi (nI (rsk V dn (z / 1000) T (z % 1000))) (h83 _ (by omega)) ?_
        refine k_i2l eX12_risk_82 ?_
        refine k_lmul eX12_risk_83 ?_
        refine k_ldc2 eX12_risk_84 kX12_280 rfl ?_
        refine k_ldiv eX12_risk_87 (by decide) ?_
        refine k_ldc2 eX12_risk_88 kX12_280 rfl ?_
        refine k_ldiv eX12_risk_91 (by decide) ?_
        refine k_l2i eX12_risk_92 ?_
        refine k_ireturn eX12_risk_93 rfl rfl ?_
        exact ⟨by rw [aRsk, if_pos ⟨c_5, c_14⟩, if_neg (nI_ne0 (by omega) (by omega)), if_neg (fun z2 => by have z3 := congrArg Int32.toInt z2; rw [nI_toInt (by omega), nI_toInt (by omega)] at z3; omega), rrN_nI hz31, ddN_nI hz31, jN_step hwl hrk, show (1000 : Int64) = jN 1000 from rfl, ← fsO, jN_div (by omega) (by decide) (by decide), jN_32 (by omega)], U, rfl, fu⟩
      refine k_aload_n eX12_risk_55 rfl ?_
      refine GX12_111 eX12_risk_56 rfl ?_
      refine k_iload_n eX12_risk_59 rfl ?_
      refine k_iconst (v := nI 1) eX12_risk_60 (by decide) ?_
      refine k_iaddN eX12_risk_61 ?_
      refine k_laldN (j := ((z % 1000) + 1)) eX12_risk_62 (ar84 _) (by omega) (Nat.le_of_ble_eq_true rfl) ?_
      refine k_topl ((jN (whl V dn (z / 1000) T (z % 1000 + 1)))) (h84 _ (by omega)) ?_
      refine k_ldc2 eX12_risk_63 kX12_280 rfl ?_
      refine k_ldiv eX12_risk_66 (by decide) ?_
      refine k_goto 92 eX12_risk_67 (by decide) ?_
      refine k_l2i eX12_risk_92 ?_
      refine k_ireturn eX12_risk_93 rfl rfl ?_
      exact ⟨by rw [aRsk, if_pos ⟨c_5, c_14⟩, if_neg (nI_ne0 (by omega) (by omega)), if_pos (by rw [show q = 1 by omega]), rrN_nI hz31, ddN_nI hz31, show (1000 : Int64) = jN 1000 from rfl, jN_div (by omega) (by decide) (by decide), jN_32 (by omega)], U, rfl, fu⟩
    refine k_aload_n eX12_risk_29 rfl ?_
    refine k_iload_n eX12_risk_30 rfl ?_
    refine k_sipush (v := nI 1000) eX12_risk_31 (by decide) ?_
    refine k_idivN eX12_risk_34 (by omega) (by omega) (by omega) ?_
    refine k_iload_n eX12_risk_35 rfl ?_
    refine cVX1 (M' := MX12_riskOf) eX12_risk_36 mX12_277 wX12_riskOf vX12_riskOf ⟨_, _, _, rfl, rfl, rfl⟩ rfl (pX12_riskOf (S := S) (V := V) (dn := dn) (r := z / 1000) (dd := z % 1000) hV hdn hcd hpl (by omega) (by omega) (T := T) hT) (by decide) (Nat.le_of_ble_eq_true rfl) ?_
    intro U fu
    refine k_ireturn eX12_risk_39 rfl rfl ?_
    exact ⟨by rw [aRsk, if_pos ⟨c_5, c_14⟩, if_pos (by rw [show q = 0 by omega]; rfl), rrN_nI hz31, ddN_nI hz31], U, rfl, fu.wk (by decide) (by decide) (by decide)⟩
  refine k_iconst (v := (-1)) eX12_risk_17 (by decide) ?_
  refine k_ireturn eX12_risk_18 rfl rfl ?_
  exact ⟨by rw [aRsk, if_neg (fun q => by first | exact c_5 q.1 | exact c_14 q.2)], S, rfl, Frm.rf S⟩
set_option maxHeartbeats 400000 in
theorem lX12_judge {d0 : Nat} (hdd : 4 ≤ d0) {S0 : k_S} {V : k_V} (hV : vM S0 = V) {dn : Nat} (hdn : S0.1 2611 = nI dn) (hcd : CntOk V dn) (hpl : PlanOk V) {r : Nat} (hr : r < 5) {T : List Int32} (hT : TxM S0 1 T) : ∀ (k j : Nat) (S : k_S), j + k = 120 → Frm [] [81, 82] [] S0 S → AW none MX12_judge d0 0 0 12 [.ref 52, .int (nI r), .int (nI j)] [] (hp S) (Rx (some (.int (fst0 (fun d => gv (nmV V dn r d) T false []) j k))) (fun S' => Frm [] [81, 82] [] S0 S')) := by
  intro k
  induction k with
  | zero =>
    intro j S hj f0
    obtain rfl : 120 = j := by omega
    refine k_iload_n eX12_judge_12 rfl ?_
    refine k_bipush (v := nI 120) eX12_judge_13 (by decide) ?_
    refine k_icmp_geN 45 eX12_judge_15 (by decide) (by omega) (by omega) (fun c_15 => ?_) (fun c_15 => by exfalso; omega)
    refine k_bipush (v := (-2)) eX12_judge_45 (by decide) ?_
    refine k_ireturn eX12_judge_47 rfl rfl ?_
    exact ⟨rfl, S, rfl, f0⟩
  | succ k ih =>
    intro j S hj f0
    have hV1 : vM S = V := (f0.M (by decide)).trans hV
    have hdn1 : S.1 2611 = nI dn := (f0.1 2611 (by decide)).trans hdn
    have hT1 : TxM S 1 T := hT.fr f0 (by decide) (by decide)
    have hTl := hT.2.1
    refine k_iload_n eX12_judge_12 rfl ?_
    refine k_bipush (v := nI 120) eX12_judge_13 (by decide) ?_
    refine k_icmp_geN 45 eX12_judge_15 (by decide) (by omega) (by omega) (fun c_15 => by exfalso; omega) (fun c_15 => ?_)
    refine k_aload_n eX12_judge_18 rfl ?_
    refine GX12_53 eX12_judge_19 rfl ?_
    refine k_iconst (v := nI 1) eX12_judge_22 (by decide) ?_
    refine k_ialdN (j := 1) eX12_judge_23 (ar66 _) (by omega) (Nat.le_of_ble_eq_true rfl) ?_
    refine k_topi (nI (T.length)) hT1.1 ?_
    refine k_if_leN 45 eX12_judge_24 (by decide) (by omega) (fun c_24 => ?_) (fun c_24 => ?_)
    · refine k_bipush (v := (-2)) eX12_judge_45 (by decide) ?_
      refine k_ireturn eX12_judge_47 rfl rfl ?_
      exact ⟨by rw [fst0_z (fun d => by rw [show T = [] from len0 c_24]; rfl)], S, rfl, f0⟩
    refine k_aload_n eX12_judge_27 rfl ?_
    refine k_iconst (v := nI 1) eX12_judge_28 (by decide) ?_
    refine k_iload_n eX12_judge_29 rfl ?_
    refine k_iload_n eX12_judge_30 rfl ?_
    refine cVX1 (M' := MX12_asksOf) eX12_judge_31 mX12_272 wX12_asksOf vX12_asksOf ⟨_, _, _, rfl, rfl, rfl⟩ rfl (pX12_asksOf (S := S) (V := V) (dn := dn) (q := 1) (r := r) (dd := j) hV1 hdn1 hcd hpl (by omega) (by omega) (by omega) (T := T) hT1) (by omega) (Nat.le_of_ble_eq_true rfl) ?_
    intro U fu
    refine k_if_eq 39 eX12_judge_34 (by decide) (fun c_34 => ?_) (fun c_34 => ?_)
    · refine k_iincN (g := 1) (a := j) (L2 := [_, _, _]) eX12_judge_39 (Nat.le_of_ble_eq_true rfl) rfl rfl ?_
      refine k_goto 12 eX12_judge_42 (by decide) ?_
      rw [fst0, if_pos c_34]
      exact ih (j + 1) U (by omega) (f0.tr fu)
    refine k_iload_n eX12_judge_37 rfl ?_
    refine k_ireturn eX12_judge_38 rfl rfl ?_
    exact ⟨by rw [fst0, if_neg c_34], U, rfl, f0.tr fu⟩
set_option maxHeartbeats 400000 in
theorem pX12_judge {S : k_S} {V : k_V} (hV : vM S = V) {dn : Nat} (hdn : S.1 2611 = nI dn) (hcd : CntOk V dn) (hpl : PlanOk V) {rn : Nat} (hrn : S.1 2604 = nI rn) (hrn5 : rn ≤ 5) {T : List Int32} (hT : TxM S 1 T) (x : Int32) : Sp 4 0 0 MX12_judge [.ref 52, .int (x)] (hp S) (Rx (some (.int (aJdg V dn T (S.1 2604) x))) (fun S' => Frm [] [81, 82] [] S S')) := by
  refine Sp_of (by decide +kernel) (Nat.le_of_ble_eq_true rfl) ?_
  show AW none MX12_judge 4 0 0 0 [.ref 52, .int (x), .null] [] (hp S) _
  refine k_aload_n eX12_judge_0 rfl ?_
  refine k_iload_n eX12_judge_1 rfl ?_
  refine cV1 (M' := MX12_isRunner) eX12_judge_2 mX12_127 wX12_isRunner vX12_isRunner ⟨_, _, _, rfl, rfl, rfl⟩ rfl (pX12_isRunner (S := S) (rn := rn) hrn hrn5 (x)) (by decide) (Nat.le_of_ble_eq_true rfl) ?_
  refine k_ifb_ne 10 eX12_judge_5 (by decide) (fun c_5 => ?_) (fun c_5 => ?_)
  · obtain ⟨r, hr, rfl⟩ := pW_ex c_5 hrn (by omega)
    refine k_iconst (v := nI 0) eX12_judge_10 (by decide) ?_
    refine k_istore_n (L2 := [_, _, _]) eX12_judge_11 (Nat.le_of_ble_eq_true rfl) rfl ?_
    rw [aJdg, if_pos c_5, jdg, ix_nI (by omega)]
    exact lX12_judge (by decide) hV hdn hcd hpl (by omega) hT 120 0 S (by omega) (Frm.rf S)
  refine k_iconst (v := (-1)) eX12_judge_8 (by decide) ?_
  refine k_ireturn eX12_judge_9 rfl rfl ?_
  exact ⟨by rw [aJdg, if_neg c_5], S, rfl, Frm.rf S⟩
