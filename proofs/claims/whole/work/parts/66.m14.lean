/-- the plan kept and laid back -/
theorem lay_bk {f : Nat → Int32} {p : Nat → Int32} (h : ∀ i, 120 ≤ i → p i = f i) (k : Nat → Int32) : fillN (fillN f k 120) p 120 = f := by
  funext i
  rw [fillN_at]
  by_cases c : i < 120
  · rw [if_pos c, fillN_at, if_pos c]
  · rw [if_neg c]; exact h i (by omega)
theorem rsP_hi {f : Nat → Int32} {a n : Nat} (h : a + n ≤ 120) (i : Nat) (hi : 120 ≤ i) : rsP f a n i = f i := by rw [rsP_at, if_neg (by omega)]
theorem jN_sub {a b : Nat} (ha : a < 2 ^ 31) (hb : b ≤ a) : jN a - jN b = jN (a - b) := by
  apply Int64.toInt_inj.mp
  rw [Int64.toInt_sub, jN_toInt ha, jN_toInt (by omega), jN_toInt (by omega)]
  rw [show (a : Int) - b = ((a - b : Nat) : Int) from by omega]
  exact bmod64 (by omega) (by omega)
/-- how fit one is on a day where one is hurt on day d -/
def fitR (V : k_V) (r day lo d : Nat) : Int32 := fitv (vP V (rsP (V 6) (d + 1) (min lo (120 - (d + 1))))) r day
def mtg (V : k_V) (dn r : Nat) (T : List Int32) (lo day : Nat) : Nat → Int64
  | 0 => 0
  | d + 1 => mtg V dn r T lo day d + jN (fsO V dn r T d) * (fitR V r day lo d).toInt64
def mMeaF (V : k_V) (dn r : Nat) (T : List Int32) (lo day : Nat) : Int32 := ((mtg V dn r T lo day 120 + jN (nev V dn r T 120) * (fitv V r day).toInt64) / 1000000).toInt32
def aMMea (V : k_V) (dn : Nat) (T : List Int32) (lo : Nat) (kr x : Int32) : Int32 := if pRD kr x then mMeaF V dn (rrN x) T lo (ddN x) else -2000000000
theorem mtg_s (V : k_V) (dn r : Nat) (T : List Int32) (lo day d : Nat) : mtg V dn r T lo day (d + 1) = mtg V dn r T lo day d + jN (fsO V dn r T d) * (fitR V r day lo d).toInt64 := rfl
theorem nev_s (V : k_V) (dn r : Nat) (T : List Int32) (d : Nat) : nev V dn r T (d + 1) = nev V dn r T d - fsO V dn r T d := rfl
set_option maxHeartbeats 400000 in
theorem lX12_mean {d : Nat} {Po : Option Value → k_H → Prop} (hdd : 3 ≤ d) {U : k_S} {V : k_V} (hV : vM U = V) {dn : Nat} (hpl : PlanOk V) {r z lo : Nat} {T : List Int32} (hr : r < 5) (hz31 : z < 2 ^ 31) (hzd : z % 1000 < 120) (hlo : U.1 2618 = nI lo) (hlo60 : lo ≤ 60) (h83 : ∀ i, i < 120 → U.2.1 83 i = nI (rsk V dn r T i)) (h84 : ∀ i, i < 121 → U.2.2 84 i = jN (whl V dn r T i)) (h85 : U.2.1 85 = fillN (V 6) (U.2.1 85) 120) (x4 : Int32) (kx : AW none MX12_mean d 0 0 120 [.ref 52, .int (nI z), .int (nI r), .int (nI (z % 1000)), .long ((jN (nev V dn r T 120))), .null, .long ((mtg V dn r T lo (z % 1000) 120)), .null, .int (nI 120), .null, .null] [] (hp U) Po) : ∀ (n j : Nat), j + n = 120 → AW none MX12_mean d 0 0 45 [.ref 52, .int (nI z), .int (nI r), .int (nI (z % 1000)), .long ((jN (nev V dn r T j))), .null, .long ((mtg V dn r T lo (z % 1000) j)), .null, .int (nI j), .null, .null] [] (hp U) Po := by
  intro n
  induction n with
  | zero =>
    intro j hj
    rw [show j = 120 by omega]
    refine k_iload eX12_mean_45 rfl ?_
    refine k_bipush (v := nI 120) eX12_mean_47 (by decide) ?_
    refine k_icmp_geN 120 eX12_mean_49 (by decide) (by omega) (by omega) (fun c_49 => ?_) (fun c_49 => by exfalso; omega)
    exact kx
  | succ n ih =>
    intro j hj
    have hrk := rsk_le V dn r T j
    have hwl := whl_le V dn r T j
    have hws := whl_s V dn r T j
    have hnv := nev_ge V dn r T j
    refine k_iload eX12_mean_45 rfl ?_
    refine k_bipush (v := nI 120) eX12_mean_47 (by decide) ?_
    refine k_icmp_geN 120 eX12_mean_49 (by decide) (by omega) (by omega) (fun c_49 => by exfalso; omega) (fun c_49 => ?_)
    refine k_aload_n eX12_mean_52 rfl ?_
    refine GX12_111 eX12_mean_53 rfl ?_
    refine k_iload eX12_mean_56 rfl ?_
    refine k_laldN (j := j) eX12_mean_58 (ar84 _) (by omega) (Nat.le_of_ble_eq_true rfl) ?_
    refine k_topl ((jN (whl V dn r T j))) (h84 _ (by omega)) ?_
    refine k_aload_n eX12_mean_59 rfl ?_
    refine GX12_108 eX12_mean_60 rfl ?_
    refine k_iload eX12_mean_63 rfl ?_
    refine k_ialdN (j := j) eX12_mean_65 (ar83 _) (by omega) (Nat.le_of_ble_eq_true rfl) ?_
    refine k_topi (nI (rsk V dn r T j)) (h83 _ (by omega)) ?_
    refine k_i2l eX12_mean_66 ?_
    refine k_lmul eX12_mean_67 ?_
    refine k_ldc2 eX12_mean_68 kX12_280 rfl ?_
    refine k_ldiv eX12_mean_71 (by decide) ?_
    refine k_topl ((jN (fsO V dn r T j))) (jN_step hwl hrk) ?_
    refine k_lstore (L2 := [_, _, _, _, _, _, _, _, _, _, _]) eX12_mean_72 (Nat.le_of_ble_eq_true rfl) rfl ?_
    refine k_lload eX12_mean_74 rfl ?_
    refine k_lload eX12_mean_76 rfl ?_
    refine k_lsub eX12_mean_78 ?_
    refine k_topl ((jN (nev V dn r T (j + 1)))) (by rw [nev_s, jN_sub (by omega) (by omega)]) ?_
    refine k_lstore (L2 := [_, _, _, _, _, _, _, _, _, _, _]) eX12_mean_79 (Nat.le_of_ble_eq_true rfl) rfl ?_
    refine k_aload_n eX12_mean_81 rfl ?_
    refine k_iload eX12_mean_82 rfl ?_
    refine k_iconst (v := nI 1) eX12_mean_84 (by decide) ?_
    refine k_iaddN eX12_mean_85 ?_
    refine k_aload_n eX12_mean_86 rfl ?_
    refine GX12_56 eX12_mean_87 rfl ?_
    refine k_topi (nI lo) hlo ?_
    refine cV0 (M' := MX12_rests) eX12_mean_90 mX12_288 wX12_rests vX12_rests ⟨_, _, _, rfl, rfl, rfl⟩ rfl (pX12_rests (S := U) (a := j + 1) (b := lo) (by omega) (by omega)) (by omega) (Nat.le_of_ble_eq_true rfl) ?_
    obtain ⟨W, eW⟩ : ∃ W, sa U 61 (rsP (U.2.1 61) (j + 1) (min lo (120 - (j + 1)))) = W := ⟨_, rfl⟩
    have hVW : vM W = (vP V (rsP (V 6) (j + 1) (min lo (120 - (j + 1))))) := by rw [← eW, vM_sa, hV, show U.2.1 61 = V 6 from congrFun hV 6]
    have hplW : PlanOk (vP V (rsP (V 6) (j + 1) (min lo (120 - (j + 1))))) := rsP_ok (p := V 6) hpl _ _
    refine k_heap (h2 := hp W) (congrArg hp eW) ?_
    refine k_lload eX12_mean_93 rfl ?_
    refine k_lload eX12_mean_95 rfl ?_
    refine k_aload_n eX12_mean_97 rfl ?_
    refine k_iload_n eX12_mean_98 rfl ?_
    refine k_iload_n eX12_mean_99 rfl ?_
    refine k_iconst (v := nI 0) eX12_mean_100 (by decide) ?_
    refine k_iconst (v := nI 0) eX12_mean_101 (by decide) ?_
    refine cV1 (M' := MX12_sumOf) eX12_mean_102 mX12_178 wX12_sumOf vX12_sumOf ⟨_, _, _, rfl, rfl, rfl⟩ rfl (pX12_sumOf (S := W) (V := (vP V (rsP (V 6) (j + 1) (min lo (120 - (j + 1)))))) (r := r) (dd := z % 1000) (q := 0) (g := 0) hVW hplW hr hzd (by omega) (by omega)) (by omega) (Nat.le_of_ble_eq_true rfl) ?_
    refine k_i2l eX12_mean_105 ?_
    refine k_topl (((fitR V r (z % 1000) lo j).toInt64)) (by rw [fitR, smV_fit]) ?_
    refine k_lmul eX12_mean_106 ?_
    refine k_ladd eX12_mean_107 ?_
    refine k_topl ((mtg V dn r T lo (z % 1000) (j + 1))) rfl ?_
    refine k_lstore (L2 := [_, _, _, _, _, _, _, _, _, _, _]) eX12_mean_108 (Nat.le_of_ble_eq_true rfl) rfl ?_
    refine k_aload_n eX12_mean_110 rfl ?_
    refine cV0 (M' := MX12_lays) eX12_mean_111 mX12_291 wX12_lays vX12_lays ⟨_, _, _, rfl, rfl, rfl⟩ rfl (pX12_lays (S := W) ) (by omega) (Nat.le_of_ble_eq_true rfl) ?_
    refine k_iincN (g := 1) (a := j) (L2 := [_, _, _, _, _, _, _, _, _, _, _]) eX12_mean_114 (Nat.le_of_ble_eq_true rfl) rfl rfl ?_
    refine k_goto 45 eX12_mean_117 (by decide) ?_
    refine k_forget 9 (L2 := [_, _, _, _, _, _, _, _, _, _, _]) rfl ?_
    refine k_heap (h2 := hp U) (congrArg hp ?_) ?_
    · rw [← eW, sa_sa]
      show sa U 61 (fillN (U.2.1 85) (rsP (U.2.1 61) (j + 1) (min lo (120 - (j + 1)))) 120) = U
      rw [h85, lay_bk (f := V 6) (fun i hi => by rw [show U.2.1 61 = V 6 from congrFun hV 6]; exact rsP_hi (by omega) i hi), ← show U.2.1 61 = V 6 from congrFun hV 6, sa_self]
    refine k_loc (L2 := [_, _, _, _, _, _, _, _, _, .null, _]) rfl ?_
    exact ih (j + 1) (by omega)
set_option maxHeartbeats 400000 in
theorem pX12_mean {S : k_S} {V : k_V} (hV : vM S = V) {dn : Nat} (hdn : S.1 2611 = nI dn) (hcd : CntOk V dn) (hpl : PlanOk V) {rn : Nat} (hrn : S.1 2604 = nI rn) (hrn5 : rn ≤ 5) {T : List Int32} (hT : TxM S 0 T) {lo : Nat} (hlo : S.1 2618 = nI lo) (hlo60 : lo ≤ 60) (x : Int32) : Sp 6 0 0 MX12_mean [.ref 52, .int (x)] (hp S) (Rx (some (.int (aMMea V dn T lo (S.1 2604) x))) (fun S' => Frm [] [81, 82, 83, 85] [84] S S')) := by
  refine Sp_of (by decide +kernel) (Nat.le_of_ble_eq_true rfl) ?_
  show AW none MX12_mean 6 0 0 0 [.ref 52, .int (x), .null, .null, .null, .null, .null, .null, .null, .null, .null] [] (hp S) _
  refine k_aload_n eX12_mean_0 rfl ?_
  refine k_iload_n eX12_mean_1 rfl ?_
  refine cV1 (M' := MX12_isBoth) eX12_mean_2 mX12_175 wX12_isBoth vX12_isBoth ⟨_, _, _, rfl, rfl, rfl⟩ rfl (pX12_isBoth (S := S) (rn := rn) hrn hrn5 (x)) (by decide) (Nat.le_of_ble_eq_true rfl) ?_
  refine k_ifb_ne 11 eX12_mean_5 (by decide) (fun c_5 => ?_) (fun c_5 => ?_)
  · obtain ⟨z, hz31, rfl, hzr, hzd⟩ := pRD_ex c_5 hrn hrn5
    refine k_iload_n eX12_mean_11 rfl ?_
    refine k_sipush (v := nI 1000) eX12_mean_12 (by decide) ?_
    refine k_idivN eX12_mean_15 (by omega) (by omega) (by omega) ?_
    refine k_istore_n (L2 := [_, _, _, _, _, _, _, _, _, _, _]) eX12_mean_16 (Nat.le_of_ble_eq_true rfl) rfl ?_
    refine k_iload_n eX12_mean_17 rfl ?_
    refine k_sipush (v := nI 1000) eX12_mean_18 (by decide) ?_
    refine k_iremN eX12_mean_21 (by omega) (by omega) (by omega) ?_
    refine k_istore_n (L2 := [_, _, _, _, _, _, _, _, _, _, _]) eX12_mean_22 (Nat.le_of_ble_eq_true rfl) rfl ?_
    refine k_aload_n eX12_mean_23 rfl ?_
    refine k_iload_n eX12_mean_24 rfl ?_
    refine k_bipush (v := nI 119) eX12_mean_25 (by decide) ?_
    refine cVX0 (v := .null) (M' := MX12_risksTo) eX12_mean_27 mX12_282 wX12_risksTo vX12_risksTo ⟨_, _, _, rfl, rfl, rfl⟩ rfl (pX12_risksTo (S := S) (V := V) (dn := dn) (r := (z / 1000)) (la := 119) hV hdn hcd hpl (by omega) (by omega) (T := T) hT) (by decide) (Nat.le_of_ble_eq_true rfl) ?_
    rintro U ⟨h83, h84, fu⟩
    refine k_ldc2 eX12_mean_30 kX12_275 rfl ?_
    refine k_lstore (L2 := [_, _, _, _, _, _, _, _, _, _, _]) eX12_mean_33 (Nat.le_of_ble_eq_true rfl) rfl ?_
    refine k_lconst (v := 0) eX12_mean_35 rfl ?_
    refine k_lstore (L2 := [_, _, _, _, _, _, _, _, _, _, _]) eX12_mean_36 (Nat.le_of_ble_eq_true rfl) rfl ?_
    refine k_aload_n eX12_mean_38 rfl ?_
    refine cV0 (M' := MX12_keeps) eX12_mean_39 mX12_285 wX12_keeps vX12_keeps ⟨_, _, _, rfl, rfl, rfl⟩ rfl (pX12_keeps (S := U) ) (by decide) (Nat.le_of_ble_eq_true rfl) ?_
    refine k_iconst (v := nI 0) eX12_mean_42 (by decide) ?_
    refine k_istore (L2 := [_, _, _, _, _, _, _, _, _, _, _]) eX12_mean_43 (Nat.le_of_ble_eq_true rfl) rfl ?_
    obtain ⟨K, eK⟩ : ∃ K, (sa U 85 (fillN (U.2.1 61) (U.2.1 85) 120)) = K := ⟨_, rfl⟩
    have hVU : vM U = V := (fu.M (by decide)).trans hV
    have hVK : vM K = V := by rw [← eK]; exact hVU
    have hloK : K.1 2618 = nI lo := by rw [← eK]; exact (fu.1 2618 (by decide)).trans hlo
    have h85 : K.2.1 85 = fillN (V 6) (K.2.1 85) 120 := by
      rw [← eK, sa_at, show U.2.1 61 = V 6 from congrFun hVU 6]
      funext i; rw [fillN_at, fillN_at, fillN_at]; split <;> rfl
    have h83K : ∀ i, i < 120 → K.2.1 83 i = nI (rsk V dn (z / 1000) T i) := by rw [← eK]; exact h83
    have h84K : ∀ i, i < 121 → K.2.2 84 i = jN (whl V dn (z / 1000) T i) := by rw [← eK]; exact h84
    have fK : Frm [] [81, 82, 83, 85] [84] S K := by rw [← eK]; exact (fu.wk (by decide) (by decide) (by decide)).sa (by decide) _
    refine k_heap (h2 := hp K) (congrArg hp eK) ?_
    refine k_loc (L2 := [_, _, _, _, .long (jN (nev V dn (z / 1000) T 0)), _, .long (mtg V dn (z / 1000) T lo (z % 1000) 0), _, _, _, _]) (by rw [show jN (nev V dn (z / 1000) T 0) = 1000000 from by show jN 1000000 = 1000000; decide] <;> rfl) ?_
    refine lX12_mean (by decide) (U := K) hVK hpl (dn := dn) (T := T) (r := z / 1000) (z := z) (lo := lo) (by omega) hz31 hzd hloK hlo60 h83K h84K h85 (nI 0) ?_ 120 0 (by omega)
    refine k_lload eX12_mean_120 rfl ?_
    refine k_lload eX12_mean_122 rfl ?_
    refine k_aload_n eX12_mean_124 rfl ?_
    refine k_iload_n eX12_mean_125 rfl ?_
    refine k_iload_n eX12_mean_126 rfl ?_
    refine k_iconst (v := nI 0) eX12_mean_127 (by decide) ?_
    refine k_iconst (v := nI 0) eX12_mean_128 (by decide) ?_
    refine cV1 (M' := MX12_sumOf) eX12_mean_129 mX12_178 wX12_sumOf vX12_sumOf ⟨_, _, _, rfl, rfl, rfl⟩ rfl (pX12_sumOf (S := K) (V := V) (r := z / 1000) (dd := z % 1000) (q := 0) (g := 0) hVK hpl (by omega) hzd (by omega) (by omega)) (by decide) (Nat.le_of_ble_eq_true rfl) ?_
    refine k_i2l eX12_mean_132 ?_
    refine k_lmul eX12_mean_133 ?_
    refine k_ladd eX12_mean_134 ?_
    refine k_lstore (L2 := [_, _, _, _, _, _, _, _, _, _, _]) eX12_mean_135 (Nat.le_of_ble_eq_true rfl) rfl ?_
    refine k_lload eX12_mean_137 rfl ?_
    refine k_ldc2 eX12_mean_139 kX12_275 rfl ?_
    refine k_ldiv eX12_mean_142 (by decide) ?_
    refine k_l2i eX12_mean_143 ?_
    refine k_ireturn eX12_mean_144 rfl rfl ?_
    exact ⟨by rw [aMMea, if_pos c_5, rrN_nI hz31, ddN_nI hz31, mMeaF, smV_fit], K, rfl, fK⟩
  refine k_ldc eX12_mean_8 kX12_182 rfl ?_
  refine k_ireturn eX12_mean_10 rfl rfl ?_
  exact ⟨by rw [aMMea, if_neg c_5], S, rfl, Frm.rf S⟩
/-- how far off a runner's tests are, as the reference sums it -/
def mOf (V : k_V) (td tf : Nat → Int32) (r : Nat) : Nat → Int64
  | 0 => 0
  | t + 1 => mOf V td tf r t + (if fitv V r (ix (td t)) / nI 1000 - tf t < 0 then (-(fitv V r (ix (td t)) / nI 1000 - tf t)).toInt64 else (fitv V r (ix (td t)) / nI 1000 - tf t).toInt64)
def mTsOk (S : k_S) (tn : Nat) : Prop := S.1 2619 = nI tn ∧ tn ≤ 10 ∧ ∀ i, i < tn → S.2.1 67 i = nI (ix (S.2.1 67 i)) ∧ ix (S.2.1 67 i) < 120
/-- the nearest of n -/
def mwN (F : Nat → Int64) : Nat → Nat
  | 0 => 0
  | o + 1 => if lg_cmp (F o) (F (mwN F o)) < 0 then o else mwN F o
def mwS (F : Nat → Int64) : Nat → Int64
  | 0 => 0
  | o + 1 => mwS F o + F o
theorem mwN_le (F : Nat → Int64) : ∀ n, mwN F n ≤ n
  | 0 => Nat.le_refl _
  | n + 1 => by have := mwN_le F n; rw [mwN]; split <;> omega
theorem mwN_lt (F : Nat → Int64) : ∀ n, 0 < n → mwN F n < n
  | 0, h => absurd h (by omega)
  | 1, _ => by have := mwN_le F 0; rw [mwN]; split <;> omega
  | n + 2, _ => by have := mwN_lt F (n + 1) (by omega); rw [mwN]; split <;> omega
def aMWho (V : k_V) (td tf : Nat → Int32) (tn rn : Nat) (kr x : Int32) : Int32 := if x = -1 ∨ pW kr x then (if tn = 0 ∨ rn = 0 then -5 else if x = -1 then nI (mwN (fun r => mOf V td tf r tn) rn) else if mwS (fun r => mOf V td tf r tn) rn = 0 then nI 1000 else (1000 - 1000 * mOf V td tf (ix x) tn / mwS (fun r => mOf V td tf r tn) rn).toInt32) else -1
set_option maxHeartbeats 400000 in
theorem lX12_offBy {d : Nat} {Po : Option Value → k_H → Prop} (hdd : 3 ≤ d) {S : k_S} {V : k_V} (hV : vM S = V) (hpl : PlanOk V) {tn : Nat} (hts : mTsOk S tn) {r : Nat} (hr : r < 5) (kx : AW none MX12_offBy d 0 0 66 [.ref 52, .int (nI r), .long ((mOf V (S.2.1 67) (S.2.1 68) r tn)), .null, .int (nI tn), .null] [] (hp S) Po) : ∀ (n j : Nat), j + n = tn → AW none MX12_offBy d 0 0 5 [.ref 52, .int (nI r), .long ((mOf V (S.2.1 67) (S.2.1 68) r j)), .null, .int (nI j), .null] [] (hp S) Po := by
  intro n
  induction n with
  | zero =>
    intro j hj
    rw [show j = tn by omega]
    have ht10 := hts.2.1
    refine k_iload eX12_offBy_5 rfl ?_
    refine k_aload_n eX12_offBy_7 rfl ?_
    refine GX12_294 eX12_offBy_8 rfl ?_
    refine k_topi (nI tn) hts.1 ?_
    refine k_icmp_geN 66 eX12_offBy_11 (by decide) (by omega) (by omega) (fun c_11 => ?_) (fun c_11 => by exfalso; omega)
    exact kx
  | succ n ih =>
    intro j hj
    have ht10 := hts.2.1
    have htd := (hts.2.2 j (by omega)).2
    refine k_iload eX12_offBy_5 rfl ?_
    refine k_aload_n eX12_offBy_7 rfl ?_
    refine GX12_294 eX12_offBy_8 rfl ?_
    refine k_topi (nI tn) hts.1 ?_
    refine k_icmp_geN 66 eX12_offBy_11 (by decide) (by omega) (by omega) (fun c_11 => by exfalso; omega) (fun c_11 => ?_)
    refine k_aload_n eX12_offBy_14 rfl ?_
    refine k_iload_n eX12_offBy_15 rfl ?_
    refine k_aload_n eX12_offBy_16 rfl ?_
    refine GX12_59 eX12_offBy_17 rfl ?_
    refine k_iload eX12_offBy_20 rfl ?_
    refine k_ialdN (j := j) eX12_offBy_22 (ar67 _) (by omega) (Nat.le_of_ble_eq_true rfl) ?_
    refine k_topi (nI (ix (S.2.1 67 j))) (hts.2.2 j (by omega)).1 ?_
    refine k_iconst (v := nI 0) eX12_offBy_23 (by decide) ?_
    refine k_iconst (v := nI 0) eX12_offBy_24 (by decide) ?_
    refine cV1 (M' := MX12_sumOf) eX12_offBy_25 mX12_178 wX12_sumOf vX12_sumOf ⟨_, _, _, rfl, rfl, rfl⟩ rfl (pX12_sumOf (S := S) (V := V) (r := r) (dd := (ix (S.2.1 67 j))) (q := 0) (g := 0) hV hpl (by omega) (by omega) (by omega) (by omega)) (by omega) (Nat.le_of_ble_eq_true rfl) ?_
    refine k_topi ((fitv V r (ix (S.2.1 67 j)))) (smV_fit _ _ _) ?_
    refine k_sipush (v := nI 1000) eX12_offBy_28 (by decide) ?_
    refine k_idiv eX12_offBy_31 (by decide) ?_
    refine k_aload_n eX12_offBy_32 rfl ?_
    refine GX12_62 eX12_offBy_33 rfl ?_
    refine k_iload eX12_offBy_36 rfl ?_
    refine k_ialdN (j := j) eX12_offBy_38 (ar68 _) (by omega) (Nat.le_of_ble_eq_true rfl) ?_
    refine k_isub eX12_offBy_39 ?_
    refine k_istore (L2 := [_, _, _, _, _, _]) eX12_offBy_40 (Nat.le_of_ble_eq_true rfl) rfl ?_
    refine k_lload_n eX12_offBy_42 rfl ?_
    refine k_iload eX12_offBy_43 rfl ?_
    refine k_if_ge 55 eX12_offBy_45 (by decide) (fun c_45 => ?_) (fun c_45 => ?_)
    · refine k_iload eX12_offBy_55 rfl ?_
      refine k_i2l eX12_offBy_57 ?_
      refine k_ladd eX12_offBy_58 ?_
      refine k_lstore_n (L2 := [_, _, _, _, _, _]) eX12_offBy_59 (Nat.le_of_ble_eq_true rfl) rfl ?_
      refine k_iincN (g := 1) (a := j) (L2 := [_, _, _, _, _, _]) eX12_offBy_60 (Nat.le_of_ble_eq_true rfl) rfl rfl ?_
      refine k_goto 5 eX12_offBy_63 (by decide) ?_
      refine k_forget 5 (L2 := [_, _, _, _, _, _]) rfl ?_
      have q := ih (j + 1) (by omega)
      rw [mOf] at q
      first | (rw [if_neg (Int32.not_lt.mpr c_45)] at q; exact q) | (rw [if_pos (Int32.not_le.mp c_45)] at q; exact q)
    refine k_iload eX12_offBy_48 rfl ?_
    refine k_ineg eX12_offBy_50 ?_
    refine k_i2l eX12_offBy_51 ?_
    refine k_goto 58 eX12_offBy_52 (by decide) ?_
    refine k_ladd eX12_offBy_58 ?_
    refine k_lstore_n (L2 := [_, _, _, _, _, _]) eX12_offBy_59 (Nat.le_of_ble_eq_true rfl) rfl ?_
    refine k_iincN (g := 1) (a := j) (L2 := [_, _, _, _, _, _]) eX12_offBy_60 (Nat.le_of_ble_eq_true rfl) rfl rfl ?_
    refine k_goto 5 eX12_offBy_63 (by decide) ?_
    refine k_forget 5 (L2 := [_, _, _, _, _, _]) rfl ?_
    have q := ih (j + 1) (by omega)
    rw [mOf] at q
    first | (rw [if_neg (Int32.not_lt.mpr c_45)] at q; exact q) | (rw [if_pos (Int32.not_le.mp c_45)] at q; exact q)
set_option maxHeartbeats 400000 in
theorem pX12_offBy {S : k_S} {V : k_V} (hV : vM S = V) (hpl : PlanOk V) {tn : Nat} (hts : mTsOk S tn) {r : Nat} (hr : r < 5) : Sp 3 0 0 MX12_offBy [.ref 52, .int (nI r)] (hp S) (Rt (some (.long (mOf V (S.2.1 67) (S.2.1 68) r tn))) (hp S)) := by
  refine Sp_of (by decide +kernel) (Nat.le_of_ble_eq_true rfl) ?_
  show AW none MX12_offBy 3 0 0 0 [.ref 52, .int (nI r), .null, .null, .null, .null] [] (hp S) _
  refine k_lconst (v := 0) eX12_offBy_0 rfl ?_
  refine k_lstore_n (L2 := [_, _, _, _, _, _]) eX12_offBy_1 (Nat.le_of_ble_eq_true rfl) rfl ?_
  refine k_iconst (v := nI 0) eX12_offBy_2 (by decide) ?_
  refine k_istore (L2 := [_, _, _, _, _, _]) eX12_offBy_3 (Nat.le_of_ble_eq_true rfl) rfl ?_
  refine lX12_offBy (by decide) hV hpl hts hr ?_ tn 0 (by omega)
  refine k_lload_n eX12_offBy_66 rfl ?_
  refine k_lreturn eX12_offBy_67 rfl ?_
  exact ⟨rfl, rfl⟩
set_option maxHeartbeats 400000 in
theorem lX12_who {d : Nat} {Po : Option Value → k_H → Prop} (hdd : 4 ≤ d) {S : k_S} {V : k_V} (hV : vM S = V) (hpl : PlanOk V) {tn : Nat} (hts : mTsOk S tn) {rn : Nat} (hrn : S.1 2604 = nI rn) (hrn5 : rn ≤ 5) (hr0 : 0 < rn) (x : Int32) (kx : AW none MX12_who d 0 0 113 [.ref 52, .int (x), .long ((mwS (fun r => mOf V (S.2.1 67) (S.2.1 68) r tn) rn)), .null, .int (nI (mwN (fun r => mOf V (S.2.1 67) (S.2.1 68) r tn) rn)), .int (nI rn)] [] (hp S) Po) : ∀ (n j : Nat), j + n = rn → AW none MX12_who d 0 0 64 [.ref 52, .int (x), .long ((mwS (fun r => mOf V (S.2.1 67) (S.2.1 68) r tn) j)), .null, .int (nI (mwN (fun r => mOf V (S.2.1 67) (S.2.1 68) r tn) j)), .int (nI j)] [] (hp S) Po := by
  intro n
  induction n with
  | zero =>
    intro j hj
    rw [show j = rn by omega]
    refine k_iload eX12_who_64 rfl ?_
    refine k_aload_n eX12_who_66 rfl ?_
    refine GX12_124 eX12_who_67 rfl ?_
    refine k_topi (nI rn) hrn ?_
    refine k_icmp_geN 113 eX12_who_70 (by decide) (by omega) (by omega) (fun c_70 => ?_) (fun c_70 => by exfalso; omega)
    exact kx
  | succ n ih =>
    intro j hj
    have hmw := mwN_le (fun r => mOf V (S.2.1 67) (S.2.1 68) r tn) j
    refine k_iload eX12_who_64 rfl ?_
    refine k_aload_n eX12_who_66 rfl ?_
    refine GX12_124 eX12_who_67 rfl ?_
    refine k_topi (nI rn) hrn ?_
    refine k_icmp_geN 113 eX12_who_70 (by decide) (by omega) (by omega) (fun c_70 => by exfalso; omega) (fun c_70 => ?_)
    refine k_lload_n eX12_who_73 rfl ?_
    refine k_aload_n eX12_who_74 rfl ?_
    refine k_iload eX12_who_75 rfl ?_
    refine cV1 (M' := MX12_offBy) eX12_who_77 mX12_297 wX12_offBy vX12_offBy ⟨_, _, _, rfl, rfl, rfl⟩ rfl (pX12_offBy (S := S) (V := V) (tn := tn) (r := j) hV hpl hts (by omega)) (by omega) (Nat.le_of_ble_eq_true rfl) ?_
    refine k_ladd eX12_who_80 ?_
    refine k_lstore_n (L2 := [_, _, _, _, _, _]) eX12_who_81 (Nat.le_of_ble_eq_true rfl) rfl ?_
    refine k_aload_n eX12_who_82 rfl ?_
    refine k_iload eX12_who_83 rfl ?_
    refine cV1 (M' := MX12_offBy) eX12_who_85 mX12_297 wX12_offBy vX12_offBy ⟨_, _, _, rfl, rfl, rfl⟩ rfl (pX12_offBy (S := S) (V := V) (tn := tn) (r := j) hV hpl hts (by omega)) (by omega) (Nat.le_of_ble_eq_true rfl) ?_
    refine k_aload_n eX12_who_88 rfl ?_
    refine k_iload eX12_who_89 rfl ?_
    refine cV1 (M' := MX12_offBy) eX12_who_91 mX12_297 wX12_offBy vX12_offBy ⟨_, _, _, rfl, rfl, rfl⟩ rfl (pX12_offBy (S := S) (V := V) (tn := tn) (r := (mwN (fun r => mOf V (S.2.1 67) (S.2.1 68) r tn) j)) hV hpl hts (by omega)) (by omega) (Nat.le_of_ble_eq_true rfl) ?_
    refine k_lcmp eX12_who_94 ?_
    refine k_if_ge 103 eX12_who_95 (by decide) (fun c_95 => ?_) (fun c_95 => ?_)
    · refine k_iload eX12_who_103 rfl ?_
      refine k_istore (L2 := [_, _, _, _, _, _]) eX12_who_105 (Nat.le_of_ble_eq_true rfl) rfl ?_
      refine k_iincN (g := 1) (a := j) (L2 := [_, _, _, _, _, _]) eX12_who_107 (Nat.le_of_ble_eq_true rfl) rfl rfl ?_
      refine k_goto 64 eX12_who_110 (by decide) ?_
      have q := ih (j + 1) (by omega)
      rw [mwS, mwN] at q
      first | (rw [if_neg (Int32.not_lt.mpr c_95)] at q; exact q) | (rw [if_pos (Int32.not_le.mp c_95)] at q; exact q)
    refine k_iload eX12_who_98 rfl ?_
    refine k_goto 105 eX12_who_100 (by decide) ?_
    refine k_istore (L2 := [_, _, _, _, _, _]) eX12_who_105 (Nat.le_of_ble_eq_true rfl) rfl ?_
    refine k_iincN (g := 1) (a := j) (L2 := [_, _, _, _, _, _]) eX12_who_107 (Nat.le_of_ble_eq_true rfl) rfl rfl ?_
    refine k_goto 64 eX12_who_110 (by decide) ?_
    have q := ih (j + 1) (by omega)
    rw [mwS, mwN] at q
    first | (rw [if_neg (Int32.not_lt.mpr c_95)] at q; exact q) | (rw [if_pos (Int32.not_le.mp c_95)] at q; exact q)
set_option maxHeartbeats 400000 in
theorem pX12_who {S : k_S} {V : k_V} (hV : vM S = V) (hpl : PlanOk V) {tn : Nat} (hts : mTsOk S tn) {rn : Nat} (hrn : S.1 2604 = nI rn) (hrn5 : rn ≤ 5) (x : Int32) : Sp 4 0 0 MX12_who [.ref 52, .int (x)] (hp S) (Rt (some (.int (aMWho V (S.2.1 67) (S.2.1 68) tn rn (S.1 2604) x))) (hp S)) := by
  refine Sp_of (by decide +kernel) (Nat.le_of_ble_eq_true rfl) ?_
  show AW none MX12_who 4 0 0 0 [.ref 52, .int (x), .null, .null, .null, .null] [] (hp S) _
  refine k_iload_n eX12_who_0 rfl ?_
  refine k_iconst (v := (-1)) eX12_who_1 (by decide) ?_
  refine k_icmp_eq 20 eX12_who_2 (by decide) (fun c_2 => ?_) (fun c_2 => ?_)
  · refine k_iload_n eX12_who_20 rfl ?_
    refine k_iconst (v := (-1)) eX12_who_21 (by decide) ?_
    refine k_icmp_lt 37 eX12_who_22 (by decide) (fun c_22 => ?_) (fun c_22 => ?_)
    · refine k_iconst (v := (-1)) eX12_who_37 (by decide) ?_
      refine k_ireturn eX12_who_38 rfl rfl ?_
      exact ⟨by rw [aMWho, if_neg (fun q => by
          rcases q with q | q
          · first | exact c_2 q | exact c_34 q | (rw [q] at c_22; exact absurd c_22 (by decide))
          · first | exact c_17 q | exact absurd q.1 (Int32.not_le.mpr (Int32.lt_trans c_22 (by decide))) | (obtain ⟨j9, h9, _⟩ := pW_ex q hrn (by omega); omega))], rfl⟩
    refine k_aload_n eX12_who_25 rfl ?_
    refine GX12_124 eX12_who_26 rfl ?_
    refine k_topi (nI rn) hrn ?_
    refine k_if_neN 39 eX12_who_29 (by decide) (by omega) (fun c_29 => ?_) (fun c_29 => ?_)
    · have ht10 := hts.2.1
      have hX : x = -1 ∨ pW (S.1 2604) x := by
        first
        | exact Or.inl c_2
        | exact Or.inr c_17
        | exact Or.inl c_34
        | (exfalso; omega)
      refine k_aload_n eX12_who_39 rfl ?_
      refine GX12_294 eX12_who_40 rfl ?_
      refine k_topi (nI tn) hts.1 ?_
      refine k_if_eqN 53 eX12_who_43 (by decide) (by omega) (fun c_43 => ?_) (fun c_43 => ?_)
      · refine k_bipush (v := (-5)) eX12_who_53 (by decide) ?_
        refine k_ireturn eX12_who_55 rfl rfl ?_
        exact ⟨by rw [aMWho, if_pos hX, if_pos (by omega)], rfl⟩
      refine k_aload_n eX12_who_46 rfl ?_
      refine GX12_124 eX12_who_47 rfl ?_
      refine k_topi (nI rn) hrn ?_
      refine k_if_neN 56 eX12_who_50 (by decide) (by omega) (fun c_50 => ?_) (fun c_50 => ?_)
      · have hr0 : 0 < rn := by omega
        refine k_lconst (v := 0) eX12_who_56 rfl ?_
        refine k_lstore_n (L2 := [_, _, _, _, _, _]) eX12_who_57 (Nat.le_of_ble_eq_true rfl) rfl ?_
        refine k_iconst (v := nI 0) eX12_who_58 (by decide) ?_
        refine k_istore (L2 := [_, _, _, _, _, _]) eX12_who_59 (Nat.le_of_ble_eq_true rfl) rfl ?_
        refine k_iconst (v := nI 0) eX12_who_61 (by decide) ?_
        refine k_istore (L2 := [_, _, _, _, _, _]) eX12_who_62 (Nat.le_of_ble_eq_true rfl) rfl ?_
        refine k_loc (L2 := [_, _, .long (mwS (fun r => mOf V (S.2.1 67) (S.2.1 68) r tn) 0), _, .int (nI (mwN (fun r => mOf V (S.2.1 67) (S.2.1 68) r tn) 0)), _]) rfl ?_
        refine lX12_who (by decide) hV hpl hts hrn hrn5 hr0 x ?_ rn 0 (by omega)
        have hmwl := mwN_lt (fun r => mOf V (S.2.1 67) (S.2.1 68) r tn) rn hr0
        refine k_iload_n eX12_who_113 rfl ?_
        refine k_iconst (v := (-1)) eX12_who_114 (by decide) ?_
        refine k_icmp_ne 123 eX12_who_115 (by decide) (fun c_115 => ?_) (fun c_115 => ?_)
        · have hx : pW (S.1 2604) x := hX.resolve_left c_115
          obtain ⟨u, hu, rfl⟩ := pW_ex hx hrn (by omega)
          refine k_lload_n eX12_who_123 rfl ?_
          refine k_lconst (v := 0) eX12_who_124 rfl ?_
          refine k_lcmp eX12_who_125 ?_
          refine k_if_ne 135 eX12_who_126 (by decide) (fun c_126 => ?_) (fun c_126 => ?_)
          · refine k_ldc2 eX12_who_135 kX12_280 rfl ?_
            refine k_ldc2 eX12_who_138 kX12_280 rfl ?_
            refine k_aload_n eX12_who_141 rfl ?_
            refine k_iload_n eX12_who_142 rfl ?_
            refine cV1 (M' := MX12_offBy) eX12_who_143 mX12_297 wX12_offBy vX12_offBy ⟨_, _, _, rfl, rfl, rfl⟩ rfl (pX12_offBy (S := S) (V := V) (tn := tn) (r := u) hV hpl hts (by omega)) (by decide) (Nat.le_of_ble_eq_true rfl) ?_
            refine k_lmul eX12_who_146 ?_
            refine k_lload_n eX12_who_147 rfl ?_
            refine k_ldiv eX12_who_148 (fun q => c_126 ((lg_cmp_0 _ _).mpr q)) ?_
            refine k_lsub eX12_who_149 ?_
            refine k_l2i eX12_who_150 ?_
            refine k_ireturn eX12_who_151 rfl rfl ?_
            exact ⟨by rw [aMWho, if_pos hX, if_neg (by omega), if_neg c_115, if_neg (fun z => c_126 ((lg_cmp_0 _ _).mpr z)), ix_nI (by omega)], rfl⟩
          refine k_sipush (v := nI 1000) eX12_who_129 (by decide) ?_
          refine k_goto 151 eX12_who_132 (by decide) ?_
          refine k_ireturn eX12_who_151 rfl rfl ?_
          exact ⟨by rw [aMWho, if_pos hX, if_neg (by omega), if_neg c_115, if_pos ((lg_cmp_0 _ _).mp c_126)], rfl⟩
        refine k_iload eX12_who_118 rfl ?_
        refine k_goto 151 eX12_who_120 (by decide) ?_
        refine k_ireturn eX12_who_151 rfl rfl ?_
        exact ⟨by rw [aMWho, if_pos hX, if_neg (by omega), if_pos c_115], rfl⟩
      refine k_bipush (v := (-5)) eX12_who_53 (by decide) ?_
      refine k_ireturn eX12_who_55 rfl rfl ?_
      exact ⟨by rw [aMWho, if_pos hX, if_pos (by omega)], rfl⟩
    refine k_iload_n eX12_who_32 rfl ?_
    refine k_iconst (v := (-1)) eX12_who_33 (by decide) ?_
    refine k_icmp_eq 39 eX12_who_34 (by decide) (fun c_34 => ?_) (fun c_34 => ?_)
    · have ht10 := hts.2.1
      have hX : x = -1 ∨ pW (S.1 2604) x := by
        first
        | exact Or.inl c_2
        | exact Or.inr c_17
        | exact Or.inl c_34
        | (exfalso; omega)
      refine k_aload_n eX12_who_39 rfl ?_
      refine GX12_294 eX12_who_40 rfl ?_
      refine k_topi (nI tn) hts.1 ?_
      refine k_if_eqN 53 eX12_who_43 (by decide) (by omega) (fun c_43 => ?_) (fun c_43 => ?_)
      · refine k_bipush (v := (-5)) eX12_who_53 (by decide) ?_
        refine k_ireturn eX12_who_55 rfl rfl ?_
        exact ⟨by rw [aMWho, if_pos hX, if_pos (by omega)], rfl⟩
      refine k_aload_n eX12_who_46 rfl ?_
      refine GX12_124 eX12_who_47 rfl ?_
      refine k_topi (nI rn) hrn ?_
      refine k_if_neN 56 eX12_who_50 (by decide) (by omega) (fun c_50 => ?_) (fun c_50 => ?_)
      · have hr0 : 0 < rn := by omega
        refine k_lconst (v := 0) eX12_who_56 rfl ?_
        refine k_lstore_n (L2 := [_, _, _, _, _, _]) eX12_who_57 (Nat.le_of_ble_eq_true rfl) rfl ?_
        refine k_iconst (v := nI 0) eX12_who_58 (by decide) ?_
        refine k_istore (L2 := [_, _, _, _, _, _]) eX12_who_59 (Nat.le_of_ble_eq_true rfl) rfl ?_
        refine k_iconst (v := nI 0) eX12_who_61 (by decide) ?_
        refine k_istore (L2 := [_, _, _, _, _, _]) eX12_who_62 (Nat.le_of_ble_eq_true rfl) rfl ?_
        refine k_loc (L2 := [_, _, .long (mwS (fun r => mOf V (S.2.1 67) (S.2.1 68) r tn) 0), _, .int (nI (mwN (fun r => mOf V (S.2.1 67) (S.2.1 68) r tn) 0)), _]) rfl ?_
        refine lX12_who (by decide) hV hpl hts hrn hrn5 hr0 x ?_ rn 0 (by omega)
        have hmwl := mwN_lt (fun r => mOf V (S.2.1 67) (S.2.1 68) r tn) rn hr0
        refine k_iload_n eX12_who_113 rfl ?_
        refine k_iconst (v := (-1)) eX12_who_114 (by decide) ?_
        refine k_icmp_ne 123 eX12_who_115 (by decide) (fun c_115 => ?_) (fun c_115 => ?_)
        · have hx : pW (S.1 2604) x := hX.resolve_left c_115
          obtain ⟨u, hu, rfl⟩ := pW_ex hx hrn (by omega)
          refine k_lload_n eX12_who_123 rfl ?_
          refine k_lconst (v := 0) eX12_who_124 rfl ?_
          refine k_lcmp eX12_who_125 ?_
          refine k_if_ne 135 eX12_who_126 (by decide) (fun c_126 => ?_) (fun c_126 => ?_)
          · refine k_ldc2 eX12_who_135 kX12_280 rfl ?_
            refine k_ldc2 eX12_who_138 kX12_280 rfl ?_
            refine k_aload_n eX12_who_141 rfl ?_
            refine k_iload_n eX12_who_142 rfl ?_
            refine cV1 (M' := MX12_offBy) eX12_who_143 mX12_297 wX12_offBy vX12_offBy ⟨_, _, _, rfl, rfl, rfl⟩ rfl (pX12_offBy (S := S) (V := V) (tn := tn) (r := u) hV hpl hts (by omega)) (by decide) (Nat.le_of_ble_eq_true rfl) ?_
            refine k_lmul eX12_who_146 ?_
            refine k_lload_n eX12_who_147 rfl ?_
            refine k_ldiv eX12_who_148 (fun q => c_126 ((lg_cmp_0 _ _).mpr q)) ?_
            refine k_lsub eX12_who_149 ?_
            refine k_l2i eX12_who_150 ?_
            refine k_ireturn eX12_who_151 rfl rfl ?_
            exact ⟨by rw [aMWho, if_pos hX, if_neg (by omega), if_neg c_115, if_neg (fun z => c_126 ((lg_cmp_0 _ _).mpr z)), ix_nI (by omega)], rfl⟩
          refine k_sipush (v := nI 1000) eX12_who_129 (by decide) ?_
          refine k_goto 151 eX12_who_132 (by decide) ?_
          refine k_ireturn eX12_who_151 rfl rfl ?_
          exact ⟨by rw [aMWho, if_pos hX, if_neg (by omega), if_neg c_115, if_pos ((lg_cmp_0 _ _).mp c_126)], rfl⟩
        refine k_iload eX12_who_118 rfl ?_
        refine k_goto 151 eX12_who_120 (by decide) ?_
        refine k_ireturn eX12_who_151 rfl rfl ?_
        exact ⟨by rw [aMWho, if_pos hX, if_neg (by omega), if_pos c_115], rfl⟩
      refine k_bipush (v := (-5)) eX12_who_53 (by decide) ?_
      refine k_ireturn eX12_who_55 rfl rfl ?_
      exact ⟨by rw [aMWho, if_pos hX, if_pos (by omega)], rfl⟩
    refine k_iconst (v := (-1)) eX12_who_37 (by decide) ?_
    refine k_ireturn eX12_who_38 rfl rfl ?_
    exact ⟨by rw [aMWho, if_neg (fun q => by
        rcases q with q | q
        · first | exact c_2 q | exact c_34 q | (rw [q] at c_22; exact absurd c_22 (by decide))
        · first | exact c_17 q | exact absurd q.1 (Int32.not_le.mpr (Int32.lt_trans c_22 (by decide))) | (obtain ⟨j9, h9, _⟩ := pW_ex q hrn (by omega); omega))], rfl⟩
  refine k_aload_n eX12_who_5 rfl ?_
  refine GX12_124 eX12_who_6 rfl ?_
  refine k_topi (nI rn) hrn ?_
  refine k_if_leN 20 eX12_who_9 (by decide) (by omega) (fun c_9 => ?_) (fun c_9 => ?_)
  · refine k_iload_n eX12_who_20 rfl ?_
    refine k_iconst (v := (-1)) eX12_who_21 (by decide) ?_
    refine k_icmp_lt 37 eX12_who_22 (by decide) (fun c_22 => ?_) (fun c_22 => ?_)
    · refine k_iconst (v := (-1)) eX12_who_37 (by decide) ?_
      refine k_ireturn eX12_who_38 rfl rfl ?_
      exact ⟨by rw [aMWho, if_neg (fun q => by
          rcases q with q | q
          · first | exact c_2 q | exact c_34 q | (rw [q] at c_22; exact absurd c_22 (by decide))
          · first | exact c_17 q | exact absurd q.1 (Int32.not_le.mpr (Int32.lt_trans c_22 (by decide))) | (obtain ⟨j9, h9, _⟩ := pW_ex q hrn (by omega); omega))], rfl⟩
    refine k_aload_n eX12_who_25 rfl ?_
    refine GX12_124 eX12_who_26 rfl ?_
    refine k_topi (nI rn) hrn ?_
    refine k_if_neN 39 eX12_who_29 (by decide) (by omega) (fun c_29 => ?_) (fun c_29 => ?_)
    · have ht10 := hts.2.1
      have hX : x = -1 ∨ pW (S.1 2604) x := by
        first
        | exact Or.inl c_2
        | exact Or.inr c_17
        | exact Or.inl c_34
        | (exfalso; omega)
      refine k_aload_n eX12_who_39 rfl ?_
      refine GX12_294 eX12_who_40 rfl ?_
      refine k_topi (nI tn) hts.1 ?_
      refine k_if_eqN 53 eX12_who_43 (by decide) (by omega) (fun c_43 => ?_) (fun c_43 => ?_)
      · refine k_bipush (v := (-5)) eX12_who_53 (by decide) ?_
        refine k_ireturn eX12_who_55 rfl rfl ?_
        exact ⟨by rw [aMWho, if_pos hX, if_pos (by omega)], rfl⟩
      refine k_aload_n eX12_who_46 rfl ?_
      refine GX12_124 eX12_who_47 rfl ?_
      refine k_topi (nI rn) hrn ?_
      refine k_if_neN 56 eX12_who_50 (by decide) (by omega) (fun c_50 => ?_) (fun c_50 => ?_)
      · have hr0 : 0 < rn := by omega
        refine k_lconst (v := 0) eX12_who_56 rfl ?_
        refine k_lstore_n (L2 := [_, _, _, _, _, _]) eX12_who_57 (Nat.le_of_ble_eq_true rfl) rfl ?_
        refine k_iconst (v := nI 0) eX12_who_58 (by decide) ?_
        refine k_istore (L2 := [_, _, _, _, _, _]) eX12_who_59 (Nat.le_of_ble_eq_true rfl) rfl ?_
        refine k_iconst (v := nI 0) eX12_who_61 (by decide) ?_
        refine k_istore (L2 := [_, _, _, _, _, _]) eX12_who_62 (Nat.le_of_ble_eq_true rfl) rfl ?_
        refine k_loc (L2 := [_, _, .long (mwS (fun r => mOf V (S.2.1 67) (S.2.1 68) r tn) 0), _, .int (nI (mwN (fun r => mOf V (S.2.1 67) (S.2.1 68) r tn) 0)), _]) rfl ?_
        refine lX12_who (by decide) hV hpl hts hrn hrn5 hr0 x ?_ rn 0 (by omega)
        have hmwl := mwN_lt (fun r => mOf V (S.2.1 67) (S.2.1 68) r tn) rn hr0
        refine k_iload_n eX12_who_113 rfl ?_
        refine k_iconst (v := (-1)) eX12_who_114 (by decide) ?_
        refine k_icmp_ne 123 eX12_who_115 (by decide) (fun c_115 => ?_) (fun c_115 => ?_)
        · have hx : pW (S.1 2604) x := hX.resolve_left c_115
          obtain ⟨u, hu, rfl⟩ := pW_ex hx hrn (by omega)
          refine k_lload_n eX12_who_123 rfl ?_
          refine k_lconst (v := 0) eX12_who_124 rfl ?_
          refine k_lcmp eX12_who_125 ?_
          refine k_if_ne 135 eX12_who_126 (by decide) (fun c_126 => ?_) (fun c_126 => ?_)
          · refine k_ldc2 eX12_who_135 kX12_280 rfl ?_
            refine k_ldc2 eX12_who_138 kX12_280 rfl ?_
            refine k_aload_n eX12_who_141 rfl ?_
            refine k_iload_n eX12_who_142 rfl ?_
            refine cV1 (M' := MX12_offBy) eX12_who_143 mX12_297 wX12_offBy vX12_offBy ⟨_, _, _, rfl, rfl, rfl⟩ rfl (pX12_offBy (S := S) (V := V) (tn := tn) (r := u) hV hpl hts (by omega)) (by decide) (Nat.le_of_ble_eq_true rfl) ?_
            refine k_lmul eX12_who_146 ?_
            refine k_lload_n eX12_who_147 rfl ?_
            refine k_ldiv eX12_who_148 (fun q => c_126 ((lg_cmp_0 _ _).mpr q)) ?_
            refine k_lsub eX12_who_149 ?_
            refine k_l2i eX12_who_150 ?_
            refine k_ireturn eX12_who_151 rfl rfl ?_
            exact ⟨by rw [aMWho, if_pos hX, if_neg (by omega), if_neg c_115, if_neg (fun z => c_126 ((lg_cmp_0 _ _).mpr z)), ix_nI (by omega)], rfl⟩
          refine k_sipush (v := nI 1000) eX12_who_129 (by decide) ?_
          refine k_goto 151 eX12_who_132 (by decide) ?_
          refine k_ireturn eX12_who_151 rfl rfl ?_
          exact ⟨by rw [aMWho, if_pos hX, if_neg (by omega), if_neg c_115, if_pos ((lg_cmp_0 _ _).mp c_126)], rfl⟩
        refine k_iload eX12_who_118 rfl ?_
        refine k_goto 151 eX12_who_120 (by decide) ?_
        refine k_ireturn eX12_who_151 rfl rfl ?_
        exact ⟨by rw [aMWho, if_pos hX, if_neg (by omega), if_pos c_115], rfl⟩
      refine k_bipush (v := (-5)) eX12_who_53 (by decide) ?_
      refine k_ireturn eX12_who_55 rfl rfl ?_
      exact ⟨by rw [aMWho, if_pos hX, if_pos (by omega)], rfl⟩
    refine k_iload_n eX12_who_32 rfl ?_
    refine k_iconst (v := (-1)) eX12_who_33 (by decide) ?_
    refine k_icmp_eq 39 eX12_who_34 (by decide) (fun c_34 => ?_) (fun c_34 => ?_)
    · have ht10 := hts.2.1
      have hX : x = -1 ∨ pW (S.1 2604) x := by
        first
        | exact Or.inl c_2
        | exact Or.inr c_17
        | exact Or.inl c_34
        | (exfalso; omega)
      refine k_aload_n eX12_who_39 rfl ?_
      refine GX12_294 eX12_who_40 rfl ?_
      refine k_topi (nI tn) hts.1 ?_
      refine k_if_eqN 53 eX12_who_43 (by decide) (by omega) (fun c_43 => ?_) (fun c_43 => ?_)
      · refine k_bipush (v := (-5)) eX12_who_53 (by decide) ?_
        refine k_ireturn eX12_who_55 rfl rfl ?_
        exact ⟨by rw [aMWho, if_pos hX, if_pos (by omega)], rfl⟩
      refine k_aload_n eX12_who_46 rfl ?_
      refine GX12_124 eX12_who_47 rfl ?_
      refine k_topi (nI rn) hrn ?_
      refine k_if_neN 56 eX12_who_50 (by decide) (by omega) (fun c_50 => ?_) (fun c_50 => ?_)
      · have hr0 : 0 < rn := by omega
        refine k_lconst (v := 0) eX12_who_56 rfl ?_
        refine k_lstore_n (L2 := [_, _, _, _, _, _]) eX12_who_57 (Nat.le_of_ble_eq_true rfl) rfl ?_
        refine k_iconst (v := nI 0) eX12_who_58 (by decide) ?_
        refine k_istore (L2 := [_, _, _, _, _, _]) eX12_who_59 (Nat.le_of_ble_eq_true rfl) rfl ?_
        refine k_iconst (v := nI 0) eX12_who_61 (by decide) ?_
        refine k_istore (L2 := [_, _, _, _, _, _]) eX12_who_62 (Nat.le_of_ble_eq_true rfl) rfl ?_
        refine k_loc (L2 := [_, _, .long (mwS (fun r => mOf V (S.2.1 67) (S.2.1 68) r tn) 0), _, .int (nI (mwN (fun r => mOf V (S.2.1 67) (S.2.1 68) r tn) 0)), _]) rfl ?_
        refine lX12_who (by decide) hV hpl hts hrn hrn5 hr0 x ?_ rn 0 (by omega)
        have hmwl := mwN_lt (fun r => mOf V (S.2.1 67) (S.2.1 68) r tn) rn hr0
        refine k_iload_n eX12_who_113 rfl ?_
        refine k_iconst (v := (-1)) eX12_who_114 (by decide) ?_
        refine k_icmp_ne 123 eX12_who_115 (by decide) (fun c_115 => ?_) (fun c_115 => ?_)
        · have hx : pW (S.1 2604) x := hX.resolve_left c_115
          obtain ⟨u, hu, rfl⟩ := pW_ex hx hrn (by omega)
          refine k_lload_n eX12_who_123 rfl ?_
          refine k_lconst (v := 0) eX12_who_124 rfl ?_
          refine k_lcmp eX12_who_125 ?_
          refine k_if_ne 135 eX12_who_126 (by decide) (fun c_126 => ?_) (fun c_126 => ?_)
          · refine k_ldc2 eX12_who_135 kX12_280 rfl ?_
            refine k_ldc2 eX12_who_138 kX12_280 rfl ?_
            refine k_aload_n eX12_who_141 rfl ?_
            refine k_iload_n eX12_who_142 rfl ?_
            refine cV1 (M' := MX12_offBy) eX12_who_143 mX12_297 wX12_offBy vX12_offBy ⟨_, _, _, rfl, rfl, rfl⟩ rfl (pX12_offBy (S := S) (V := V) (tn := tn) (r := u) hV hpl hts (by omega)) (by decide) (Nat.le_of_ble_eq_true rfl) ?_
            refine k_lmul eX12_who_146 ?_
            refine k_lload_n eX12_who_147 rfl ?_
            refine k_ldiv eX12_who_148 (fun q => c_126 ((lg_cmp_0 _ _).mpr q)) ?_
            refine k_lsub eX12_who_149 ?_
            refine k_l2i eX12_who_150 ?_
            refine k_ireturn eX12_who_151 rfl rfl ?_
            exact ⟨by rw [aMWho, if_pos hX, if_neg (by omega), if_neg c_115, if_neg (fun z => c_126 ((lg_cmp_0 _ _).mpr z)), ix_nI (by omega)], rfl⟩
          refine k_sipush (v := nI 1000) eX12_who_129 (by decide) ?_
          refine k_goto 151 eX12_who_132 (by decide) ?_
          refine k_ireturn eX12_who_151 rfl rfl ?_
          exact ⟨by rw [aMWho, if_pos hX, if_neg (by omega), if_neg c_115, if_pos ((lg_cmp_0 _ _).mp c_126)], rfl⟩
        refine k_iload eX12_who_118 rfl ?_
        refine k_goto 151 eX12_who_120 (by decide) ?_
        refine k_ireturn eX12_who_151 rfl rfl ?_
        exact ⟨by rw [aMWho, if_pos hX, if_neg (by omega), if_pos c_115], rfl⟩
      refine k_bipush (v := (-5)) eX12_who_53 (by decide) ?_
      refine k_ireturn eX12_who_55 rfl rfl ?_
      exact ⟨by rw [aMWho, if_pos hX, if_pos (by omega)], rfl⟩
    refine k_iconst (v := (-1)) eX12_who_37 (by decide) ?_
    refine k_ireturn eX12_who_38 rfl rfl ?_
    exact ⟨by rw [aMWho, if_neg (fun q => by
        rcases q with q | q
        · first | exact c_2 q | exact c_34 q | (rw [q] at c_22; exact absurd c_22 (by decide))
        · first | exact c_17 q | exact absurd q.1 (Int32.not_le.mpr (Int32.lt_trans c_22 (by decide))) | (obtain ⟨j9, h9, _⟩ := pW_ex q hrn (by omega); omega))], rfl⟩
  refine k_aload_n eX12_who_12 rfl ?_
  refine k_iload_n eX12_who_13 rfl ?_
  refine cV1 (M' := MX12_isRunner) eX12_who_14 mX12_127 wX12_isRunner vX12_isRunner ⟨_, _, _, rfl, rfl, rfl⟩ rfl (pX12_isRunner (S := S) (rn := rn) hrn hrn5 (x)) (by decide) (Nat.le_of_ble_eq_true rfl) ?_
  refine k_ifb_eq 37 eX12_who_17 (by decide) (fun c_17 => ?_) (fun c_17 => ?_)
  · refine k_iconst (v := (-1)) eX12_who_37 (by decide) ?_
    refine k_ireturn eX12_who_38 rfl rfl ?_
    exact ⟨by rw [aMWho, if_neg (fun q => by
        rcases q with q | q
        · first | exact c_2 q | exact c_34 q | (rw [q] at c_22; exact absurd c_22 (by decide))
        · first | exact c_17 q | exact absurd q.1 (Int32.not_le.mpr (Int32.lt_trans c_22 (by decide))) | (obtain ⟨j9, h9, _⟩ := pW_ex q hrn (by omega); omega))], rfl⟩
  refine k_iload_n eX12_who_20 rfl ?_
  refine k_iconst (v := (-1)) eX12_who_21 (by decide) ?_
  refine k_icmp_lt 37 eX12_who_22 (by decide) (fun c_22 => ?_) (fun c_22 => ?_)
  · refine k_iconst (v := (-1)) eX12_who_37 (by decide) ?_
    refine k_ireturn eX12_who_38 rfl rfl ?_
    exact ⟨by rw [aMWho, if_neg (fun q => by
        rcases q with q | q
        · first | exact c_2 q | exact c_34 q | (rw [q] at c_22; exact absurd c_22 (by decide))
        · first | exact c_17 q | exact absurd q.1 (Int32.not_le.mpr (Int32.lt_trans c_22 (by decide))) | (obtain ⟨j9, h9, _⟩ := pW_ex q hrn (by omega); omega))], rfl⟩
  refine k_aload_n eX12_who_25 rfl ?_
  refine GX12_124 eX12_who_26 rfl ?_
  refine k_topi (nI rn) hrn ?_
  refine k_if_neN 39 eX12_who_29 (by decide) (by omega) (fun c_29 => ?_) (fun c_29 => ?_)
  · have ht10 := hts.2.1
    have hX : x = -1 ∨ pW (S.1 2604) x := by
      first
      | exact Or.inl c_2
      | exact Or.inr c_17
      | exact Or.inl c_34
      | (exfalso; omega)
    refine k_aload_n eX12_who_39 rfl ?_
    refine GX12_294 eX12_who_40 rfl ?_
    refine k_topi (nI tn) hts.1 ?_
    refine k_if_eqN 53 eX12_who_43 (by decide) (by omega) (fun c_43 => ?_) (fun c_43 => ?_)
    · refine k_bipush (v := (-5)) eX12_who_53 (by decide) ?_
      refine k_ireturn eX12_who_55 rfl rfl ?_
      exact ⟨by rw [aMWho, if_pos hX, if_pos (by omega)], rfl⟩
    refine k_aload_n eX12_who_46 rfl ?_
    refine GX12_124 eX12_who_47 rfl ?_
    refine k_topi (nI rn) hrn ?_
    refine k_if_neN 56 eX12_who_50 (by decide) (by omega) (fun c_50 => ?_) (fun c_50 => ?_)
    · have hr0 : 0 < rn := by omega
      refine k_lconst (v := 0) eX12_who_56 rfl ?_
      refine k_lstore_n (L2 := [_, _, _, _, _, _]) eX12_who_57 (Nat.le_of_ble_eq_true rfl) rfl ?_
      refine k_iconst (v := nI 0) eX12_who_58 (by decide) ?_
      refine k_istore (L2 := [_, _, _, _, _, _]) eX12_who_59 (Nat.le_of_ble_eq_true rfl) rfl ?_
      refine k_iconst (v := nI 0) eX12_who_61 (by decide) ?_
      refine k_istore (L2 := [_, _, _, _, _, _]) eX12_who_62 (Nat.le_of_ble_eq_true rfl) rfl ?_
      refine k_loc (L2 := [_, _, .long (mwS (fun r => mOf V (S.2.1 67) (S.2.1 68) r tn) 0), _, .int (nI (mwN (fun r => mOf V (S.2.1 67) (S.2.1 68) r tn) 0)), _]) rfl ?_
      refine lX12_who (by decide) hV hpl hts hrn hrn5 hr0 x ?_ rn 0 (by omega)
      have hmwl := mwN_lt (fun r => mOf V (S.2.1 67) (S.2.1 68) r tn) rn hr0
      refine k_iload_n eX12_who_113 rfl ?_
      refine k_iconst (v := (-1)) eX12_who_114 (by decide) ?_
      refine k_icmp_ne 123 eX12_who_115 (by decide) (fun c_115 => ?_) (fun c_115 => ?_)
      · have hx : pW (S.1 2604) x := hX.resolve_left c_115
        obtain ⟨u, hu, rfl⟩ := pW_ex hx hrn (by omega)
        refine k_lload_n eX12_who_123 rfl ?_
        refine k_lconst (v := 0) eX12_who_124 rfl ?_
        refine k_lcmp eX12_who_125 ?_
        refine k_if_ne 135 eX12_who_126 (by decide) (fun c_126 => ?_) (fun c_126 => ?_)
        · refine k_ldc2 eX12_who_135 kX12_280 rfl ?_
          refine k_ldc2 eX12_who_138 kX12_280 rfl ?_
          refine k_aload_n eX12_who_141 rfl ?_
          refine k_iload_n eX12_who_142 rfl ?_
          refine cV1 (M' := MX12_offBy) eX12_who_143 mX12_297 wX12_offBy vX12_offBy ⟨_, _, _, rfl, rfl, rfl⟩ rfl (pX12_offBy (S := S) (V := V) (tn := tn) (r := u) hV hpl hts (by omega)) (by decide) (Nat.le_of_ble_eq_true rfl) ?_
          refine k_lmul eX12_who_146 ?_
          refine k_lload_n eX12_who_147 rfl ?_
          refine k_ldiv eX12_who_148 (fun q => c_126 ((lg_cmp_0 _ _).mpr q)) ?_
          refine k_lsub eX12_who_149 ?_
          refine k_l2i eX12_who_150 ?_
          refine k_ireturn eX12_who_151 rfl rfl ?_
          exact ⟨by rw [aMWho, if_pos hX, if_neg (by omega), if_neg c_115, if_neg (fun z => c_126 ((lg_cmp_0 _ _).mpr z)), ix_nI (by omega)], rfl⟩
        refine k_sipush (v := nI 1000) eX12_who_129 (by decide) ?_
        refine k_goto 151 eX12_who_132 (by decide) ?_
        refine k_ireturn eX12_who_151 rfl rfl ?_
        exact ⟨by rw [aMWho, if_pos hX, if_neg (by omega), if_neg c_115, if_pos ((lg_cmp_0 _ _).mp c_126)], rfl⟩
      refine k_iload eX12_who_118 rfl ?_
      refine k_goto 151 eX12_who_120 (by decide) ?_
      refine k_ireturn eX12_who_151 rfl rfl ?_
      exact ⟨by rw [aMWho, if_pos hX, if_neg (by omega), if_pos c_115], rfl⟩
    refine k_bipush (v := (-5)) eX12_who_53 (by decide) ?_
    refine k_ireturn eX12_who_55 rfl rfl ?_
    exact ⟨by rw [aMWho, if_pos hX, if_pos (by omega)], rfl⟩
  refine k_iload_n eX12_who_32 rfl ?_
  refine k_iconst (v := (-1)) eX12_who_33 (by decide) ?_
  refine k_icmp_eq 39 eX12_who_34 (by decide) (fun c_34 => ?_) (fun c_34 => ?_)
  · have ht10 := hts.2.1
    have hX : x = -1 ∨ pW (S.1 2604) x := by
      first
      | exact Or.inl c_2
      | exact Or.inr c_17
      | exact Or.inl c_34
      | (exfalso; omega)
    refine k_aload_n eX12_who_39 rfl ?_
    refine GX12_294 eX12_who_40 rfl ?_
    refine k_topi (nI tn) hts.1 ?_
    refine k_if_eqN 53 eX12_who_43 (by decide) (by omega) (fun c_43 => ?_) (fun c_43 => ?_)
    · refine k_bipush (v := (-5)) eX12_who_53 (by decide) ?_
      refine k_ireturn eX12_who_55 rfl rfl ?_
      exact ⟨by rw [aMWho, if_pos hX, if_pos (by omega)], rfl⟩
    refine k_aload_n eX12_who_46 rfl ?_
    refine GX12_124 eX12_who_47 rfl ?_
    refine k_topi (nI rn) hrn ?_
    refine k_if_neN 56 eX12_who_50 (by decide) (by omega) (fun c_50 => ?_) (fun c_50 => ?_)
    · have hr0 : 0 < rn := by omega
      refine k_lconst (v := 0) eX12_who_56 rfl ?_
      refine k_lstore_n (L2 := [_, _, _, _, _, _]) eX12_who_57 (Nat.le_of_ble_eq_true rfl) rfl ?_
      refine k_iconst (v := nI 0) eX12_who_58 (by decide) ?_
      refine k_istore (L2 := [_, _, _, _, _, _]) eX12_who_59 (Nat.le_of_ble_eq_true rfl) rfl ?_
      refine k_iconst (v := nI 0) eX12_who_61 (by decide) ?_
      refine k_istore (L2 := [_, _, _, _, _, _]) eX12_who_62 (Nat.le_of_ble_eq_true rfl) rfl ?_
      refine k_loc (L2 := [_, _, .long (mwS (fun r => mOf V (S.2.1 67) (S.2.1 68) r tn) 0), _, .int (nI (mwN (fun r => mOf V (S.2.1 67) (S.2.1 68) r tn) 0)), _]) rfl ?_
      refine lX12_who (by decide) hV hpl hts hrn hrn5 hr0 x ?_ rn 0 (by omega)
      have hmwl := mwN_lt (fun r => mOf V (S.2.1 67) (S.2.1 68) r tn) rn hr0
      refine k_iload_n eX12_who_113 rfl ?_
      refine k_iconst (v := (-1)) eX12_who_114 (by decide) ?_
      refine k_icmp_ne 123 eX12_who_115 (by decide) (fun c_115 => ?_) (fun c_115 => ?_)
      · have hx : pW (S.1 2604) x := hX.resolve_left c_115
        obtain ⟨u, hu, rfl⟩ := pW_ex hx hrn (by omega)
        refine k_lload_n eX12_who_123 rfl ?_
        refine k_lconst (v := 0) eX12_who_124 rfl ?_
        refine k_lcmp eX12_who_125 ?_
        refine k_if_ne 135 eX12_who_126 (by decide) (fun c_126 => ?_) (fun c_126 => ?_)
        · refine k_ldc2 eX12_who_135 kX12_280 rfl ?_
          refine k_ldc2 eX12_who_138 kX12_280 rfl ?_
          refine k_aload_n eX12_who_141 rfl ?_
          refine k_iload_n eX12_who_142 rfl ?_
          refine cV1 (M' := MX12_offBy) eX12_who_143 mX12_297 wX12_offBy vX12_offBy ⟨_, _, _, rfl, rfl, rfl⟩ rfl (pX12_offBy (S := S) (V := V) (tn := tn) (r := u) hV hpl hts (by omega)) (by decide) (Nat.le_of_ble_eq_true rfl) ?_
          refine k_lmul eX12_who_146 ?_
          refine k_lload_n eX12_who_147 rfl ?_
          refine k_ldiv eX12_who_148 (fun q => c_126 ((lg_cmp_0 _ _).mpr q)) ?_
          refine k_lsub eX12_who_149 ?_
          refine k_l2i eX12_who_150 ?_
          refine k_ireturn eX12_who_151 rfl rfl ?_
          exact ⟨by rw [aMWho, if_pos hX, if_neg (by omega), if_neg c_115, if_neg (fun z => c_126 ((lg_cmp_0 _ _).mpr z)), ix_nI (by omega)], rfl⟩
        refine k_sipush (v := nI 1000) eX12_who_129 (by decide) ?_
        refine k_goto 151 eX12_who_132 (by decide) ?_
        refine k_ireturn eX12_who_151 rfl rfl ?_
        exact ⟨by rw [aMWho, if_pos hX, if_neg (by omega), if_neg c_115, if_pos ((lg_cmp_0 _ _).mp c_126)], rfl⟩
      refine k_iload eX12_who_118 rfl ?_
      refine k_goto 151 eX12_who_120 (by decide) ?_
      refine k_ireturn eX12_who_151 rfl rfl ?_
      exact ⟨by rw [aMWho, if_pos hX, if_neg (by omega), if_pos c_115], rfl⟩
    refine k_bipush (v := (-5)) eX12_who_53 (by decide) ?_
    refine k_ireturn eX12_who_55 rfl rfl ?_
    exact ⟨by rw [aMWho, if_pos hX, if_pos (by omega)], rfl⟩
  refine k_iconst (v := (-1)) eX12_who_37 (by decide) ?_
  refine k_ireturn eX12_who_38 rfl rfl ?_
  exact ⟨by rw [aMWho, if_neg (fun q => by
      rcases q with q | q
      · first | exact c_2 q | exact c_34 q | (rw [q] at c_22; exact absurd c_22 (by decide))
      · first | exact c_17 q | exact absurd q.1 (Int32.not_le.mpr (Int32.lt_trans c_22 (by decide))) | (obtain ⟨j9, h9, _⟩ := pW_ex q hrn (by omega); omega))], rfl⟩
