theorem dmN {n k : Nat} (h : n < 2 ^ 31) (h0 : 0 < k) (hk : k < 2 ^ 31) : nI n / nI k = nI (n / k) ∧ rm (nI n) (nI k) = nI (n % k) := ⟨pk_div h h0 hk, pk_rem h h0 hk⟩
theorem div_lt31 {n k : Nat} (h : n < 2 ^ 31) : n / k < 2 ^ 31 := Nat.lt_of_le_of_lt (Nat.div_le_self n k) h
theorem nI_ne {a b : Nat} (ha : a < 2 ^ 31) (hb : b < 2 ^ 31) (h : ¬ nI a = nI b) : a ≠ b := fun q => h (by rw [q])
/-- on how many of n days a is fitter than b -/
def alN (V : k_V) (a b : Nat) : Nat → Nat
  | 0 => 0
  | n + 1 => alN V a b n + if fitv V b n < fitv V a n then 1 else 0
theorem alN_le (V : k_V) (a b : Nat) : ∀ n, alN V a b n ≤ n
  | 0 => Nat.le_refl _
  | n + 1 => by have := alN_le V a b n; rw [alN]; split <;> omega
abbrev pAlk (kr x : Int32) : Prop := ¬ x < 0 ∧ pW kr (x / nI 10) ∧ pW kr (rm x (nI 10)) ∧ ¬ x / nI 10 = rm x (nI 10)
def aAlk (V : k_V) (kr x : Int32) : Int32 := if pAlk kr x then nI (alN V (ix (x / nI 10)) (ix (rm x (nI 10))) 120) else -1
theorem pAlk_ex {kr x : Int32} {rn : Nat} (h : pAlk kr x) (hk : kr = nI rn) (hrn : rn ≤ 5) : ∃ n, n < 2 ^ 31 ∧ x = nI n ∧ n / 10 < rn ∧ n % 10 < rn := by
  obtain ⟨n, h1, rfl⟩ := k_nneg h.1
  obtain ⟨_, h2, h3, _⟩ := h
  rw [(dmN h1 (by decide) (by decide)).1, hk, pW_N (by omega) (by omega)] at h2
  rw [(dmN h1 (by decide) (by decide)).2, hk, pW_N (by omega) (by omega)] at h3
  exact ⟨n, h1, rfl, h2, h3⟩
/-- the first day from which on nothing is worth its work -/
def pyN (V : k_V) (dn wk r : Nat) : Nat → Nat
  | 0 => 0
  | d + 1 => if (bs V dn r d (wk - 1)).1 = 0 then pyN V dn wk r d else d + 1
def aPay (V : k_V) (dn wk : Nat) (kr x : Int32) : Int32 := if pW kr x then nI (pyN V dn wk (ix x) 120) else -1
abbrev pBst (kr r m d : Int32) : Prop := pW kr r ∧ pIn m (nI 0) (nI 7) ∧ (d = -1 ∨ pD d)
def aBst (S : k_S) (V : k_V) (dn wk : Nat) (kr r m d : Int32) : Int32 := if pBst kr r m d then (if d = -1 then (cbE V dn wk (ix r) (ix m) S).2 else (cbE V dn wk (ix r) (ix m) S).1.2.1 32 (ix d)) else -2000000000
def sBst (S : k_S) (V : k_V) (dn wk : Nat) (kr r m d : Int32) : k_S := if pBst kr r m d then (cbE V dn wk (ix r) (ix m) S).1 else S
def aRsk (V : k_V) (dn : Nat) (T : List Int32) (kr x w : Int32) : Int32 := if pRD kr x ∧ pIn w (nI 0) (nI 2) then (if w = 0 then nI (rsk V dn (rrN x) T (ddN x)) else if w = nI 1 then nI (whl V dn (rrN x) T (ddN x + 1) / 1000) else nI (fsO V dn (rrN x) T (ddN x) / 1000)) else -1
def aMea (V : k_V) (dn : Nat) (T : List Int32) (lo : Nat) (kr x : Int32) : Int32 := if pRD kr x then mnF V dn (rrN x) T lo (ddN x) else -2000000000
def aJdg (V : k_V) (dn : Nat) (T : List Int32) (kr x : Int32) : Int32 := if pW kr x then jdg V dn (ix x) T else -1
abbrev pYrs (kr r nw : Int32) : Prop := pW kr r ∧ ¬ nw < 0 ∧ pIn (nw / nI 10) (nI 1) (nI 50) ∧ pIn (rm nw (nI 10)) (nI 0) (nI 1)
def aYrs (V : k_V) (dn : Nat) (T : List Int32) (lo : Nat) (kr r seed nw : Int32) : Int32 := if pYrs kr r nw then (if rm nw (nI 10) = nI 1 then (if lsN V dn = 0 then -2 else ((yrs V dn (ix r) T lo seed (ix (nw / nI 10))).2.2 / (nI (ix (nw / nI 10))).toInt64).toInt32) else (yrs V dn (ix r) T lo seed (ix (nw / nI 10))).2.1) else -2000000000
set_option maxHeartbeats 400000 in
theorem lX11_alike {d : Nat} {Po : Option Value → k_H → Prop} (hdd : 4 ≤ d) {S : k_S} {V : k_V} (hV : vC S = V) (hpl : PlanOk V) {z : Nat} (hz31 : z < 2 ^ 31) (hza : z / 10 < 5) (hzb : z % 10 < 5) (kx : AW none MX11_alike d 0 0 91 [.ref 0, .int (nI z), .int (nI (alN V (z / 10) (z % 10) 120)), .int (nI 120)] [] (hp S) Po) : ∀ (n j : Nat), j + n = 120 → AW none MX11_alike d 0 0 49 [.ref 0, .int (nI z), .int (nI (alN V (z / 10) (z % 10) j)), .int (nI j)] [] (hp S) Po := by
  intro n
  induction n with
  | zero =>
    intro j hj
    rw [show j = 120 by omega]
    refine k_iload_n eX11_alike_49 rfl ?_
    refine k_bipush (v := nI 120) eX11_alike_50 (by decide) ?_
    refine k_icmp_geN 91 eX11_alike_52 (by decide) (by omega) (by omega) (fun c_52 => ?_) (fun c_52 => by exfalso; omega)
    exact kx
  | succ n ih =>
    intro j hj
    refine k_iload_n eX11_alike_49 rfl ?_
    refine k_bipush (v := nI 120) eX11_alike_50 (by decide) ?_
    refine k_icmp_geN 91 eX11_alike_52 (by decide) (by omega) (by omega) (fun c_52 => by exfalso; omega) (fun c_52 => ?_)
    refine k_aload_n eX11_alike_55 rfl ?_
    refine GX11_83 eX11_alike_56 rfl ?_
    refine k_iload_n eX11_alike_59 rfl ?_
    refine k_bipush (v := nI 10) eX11_alike_60 (by decide) ?_
    refine k_idivN eX11_alike_62 (by omega) (by omega) (by omega) ?_
    refine k_iload_n eX11_alike_63 rfl ?_
    refine cV1 (M' := MX3_fitOn) eX11_alike_64 mX11_268 wX3_fitOn vX3_fitOn ⟨_, _, _, rfl, rfl, rfl⟩ rfl (pX3_fitOn (S := S) (V := V) (r := (z / 10)) (day := j) hV hpl (by omega) (by omega)) (by omega) (Nat.le_of_ble_eq_true rfl) ?_
    refine k_aload_n eX11_alike_67 rfl ?_
    refine GX11_83 eX11_alike_68 rfl ?_
    refine k_iload_n eX11_alike_71 rfl ?_
    refine k_bipush (v := nI 10) eX11_alike_72 (by decide) ?_
    refine k_iremN eX11_alike_74 (by omega) (by omega) (by omega) ?_
    refine k_iload_n eX11_alike_75 rfl ?_
    refine cV1 (M' := MX3_fitOn) eX11_alike_76 mX11_268 wX3_fitOn vX3_fitOn ⟨_, _, _, rfl, rfl, rfl⟩ rfl (pX3_fitOn (S := S) (V := V) (r := (z % 10)) (day := j) hV hpl (by omega) (by omega)) (by omega) (Nat.le_of_ble_eq_true rfl) ?_
    refine k_icmp_le 85 eX11_alike_79 (by decide) (fun c_79 => ?_) (fun c_79 => ?_)
    · refine k_iincN (g := 1) (a := j) (L2 := [_, _, _, _]) eX11_alike_85 (Nat.le_of_ble_eq_true rfl) rfl rfl ?_
      refine k_goto 49 eX11_alike_88 (by decide) ?_
      have q := ih (j + 1) (by omega)
      rw [alN] at q
      first | (rw [if_neg (Int32.not_lt.mpr c_79)] at q; exact q) | (rw [if_pos (Int32.not_le.mp c_79)] at q; exact q)
    refine k_iincN (g := 1) (a := (alN V (z / 10) (z % 10) j)) (L2 := [_, _, _, _]) eX11_alike_82 (Nat.le_of_ble_eq_true rfl) rfl rfl ?_
    refine k_iincN (g := 1) (a := j) (L2 := [_, _, _, _]) eX11_alike_85 (Nat.le_of_ble_eq_true rfl) rfl rfl ?_
    refine k_goto 49 eX11_alike_88 (by decide) ?_
    have q := ih (j + 1) (by omega)
    rw [alN] at q
    first | (rw [if_neg (Int32.not_lt.mpr c_79)] at q; exact q) | (rw [if_pos (Int32.not_le.mp c_79)] at q; exact q)
set_option maxHeartbeats 400000 in
theorem pX11_alike {S : k_S} {V : k_V} (hV : vC S = V) (hpl : PlanOk V) {rn : Nat} (hrn : S.1 1003 = nI rn) (hrn5 : rn ≤ 5) (x : Int32) : Sp 4 0 0 MX11_alike [.ref 0, .int (x)] (hp S) (Rt (some (.int (aAlk V (S.1 1003) x))) (hp S)) := by
  refine Sp_of (by decide +kernel) (Nat.le_of_ble_eq_true rfl) ?_
  show AW none MX11_alike 4 0 0 0 [.ref 0, .int (x), .null, .null] [] (hp S) _
  refine k_iload_n eX11_alike_0 rfl ?_
  refine k_if_lt 43 eX11_alike_1 (by decide) (fun c_1 => ?_) (fun c_1 => ?_)
  · refine k_iconst (v := (-1)) eX11_alike_43 (by decide) ?_
    refine k_ireturn eX11_alike_44 rfl rfl ?_
    exact ⟨by rw [aAlk, if_neg (fun q => by first | exact q.1 c_1 | exact c_15 q.2.1 | exact c_29 q.2.2.1 | exact q.2.2.2 c_40 | exact q.2.2.2 (Decidable.not_not.mp c_40))], rfl⟩
  refine k_aload_n eX11_alike_4 rfl ?_
  refine GX11_71 eX11_alike_5 rfl ?_
  refine k_iload_n eX11_alike_8 rfl ?_
  refine k_bipush (v := nI 10) eX11_alike_9 (by decide) ?_
  refine k_idiv eX11_alike_11 (by decide) ?_
  refine cV1 (M' := MX8_has) eX11_alike_12 mX11_175 wX8_has vX8_has ⟨_, _, _, rfl, rfl, rfl⟩ rfl (pX8_has (S := S) ((x / nI 10))) (by decide) (Nat.le_of_ble_eq_true rfl) ?_
  refine k_ifb_eq 43 eX11_alike_15 (by decide) (fun c_15 => ?_) (fun c_15 => ?_)
  · refine k_iconst (v := (-1)) eX11_alike_43 (by decide) ?_
    refine k_ireturn eX11_alike_44 rfl rfl ?_
    exact ⟨by rw [aAlk, if_neg (fun q => by first | exact q.1 c_1 | exact c_15 q.2.1 | exact c_29 q.2.2.1 | exact q.2.2.2 c_40 | exact q.2.2.2 (Decidable.not_not.mp c_40))], rfl⟩
  refine k_aload_n eX11_alike_18 rfl ?_
  refine GX11_71 eX11_alike_19 rfl ?_
  refine k_iload_n eX11_alike_22 rfl ?_
  refine k_bipush (v := nI 10) eX11_alike_23 (by decide) ?_
  refine k_irem eX11_alike_25 (by decide) ?_
  refine cV1 (M' := MX8_has) eX11_alike_26 mX11_175 wX8_has vX8_has ⟨_, _, _, rfl, rfl, rfl⟩ rfl (pX8_has (S := S) ((x - x / nI 10 * nI 10))) (by decide) (Nat.le_of_ble_eq_true rfl) ?_
  refine k_ifb_eq 43 eX11_alike_29 (by decide) (fun c_29 => ?_) (fun c_29 => ?_)
  · refine k_iconst (v := (-1)) eX11_alike_43 (by decide) ?_
    refine k_ireturn eX11_alike_44 rfl rfl ?_
    exact ⟨by rw [aAlk, if_neg (fun q => by first | exact q.1 c_1 | exact c_15 q.2.1 | exact c_29 q.2.2.1 | exact q.2.2.2 c_40 | exact q.2.2.2 (Decidable.not_not.mp c_40))], rfl⟩
  refine k_iload_n eX11_alike_32 rfl ?_
  refine k_bipush (v := nI 10) eX11_alike_33 (by decide) ?_
  refine k_idiv eX11_alike_35 (by decide) ?_
  refine k_iload_n eX11_alike_36 rfl ?_
  refine k_bipush (v := nI 10) eX11_alike_37 (by decide) ?_
  refine k_irem eX11_alike_39 (by decide) ?_
  refine k_icmp_ne 45 eX11_alike_40 (by decide) (fun c_40 => ?_) (fun c_40 => ?_)
  · have hC : pAlk (S.1 1003) x := ⟨c_1, c_15, c_29, c_40⟩
    obtain ⟨z, hz31, rfl, hza, hzb⟩ := pAlk_ex hC hrn hrn5
    refine k_iconst (v := nI 0) eX11_alike_45 (by decide) ?_
    refine k_istore_n (L2 := [_, _, _, _]) eX11_alike_46 (Nat.le_of_ble_eq_true rfl) rfl ?_
    refine k_iconst (v := nI 0) eX11_alike_47 (by decide) ?_
    refine k_istore_n (L2 := [_, _, _, _]) eX11_alike_48 (Nat.le_of_ble_eq_true rfl) rfl ?_
    refine lX11_alike (by decide) hV hpl hz31 (by omega) (by omega) ?_ 120 0 (by omega)
    refine k_iload_n eX11_alike_91 rfl ?_
    refine k_ireturn eX11_alike_92 rfl rfl ?_
    exact ⟨by rw [aAlk, if_pos hC, (dmN hz31 (by decide) (by decide)).1, (dmN hz31 (by decide) (by decide)).2, ix_nI (by omega), ix_nI (by omega)], rfl⟩
  refine k_iconst (v := (-1)) eX11_alike_43 (by decide) ?_
  refine k_ireturn eX11_alike_44 rfl rfl ?_
  exact ⟨by rw [aAlk, if_neg (fun q => by first | exact q.1 c_1 | exact c_15 q.2.1 | exact c_29 q.2.2.1 | exact q.2.2.2 c_40 | exact q.2.2.2 (Decidable.not_not.mp c_40))], rfl⟩
theorem lX11_pays {d : Nat} (hdd : 5 ≤ d) {S : k_S} {V : k_V} (hV : vC S = V) {dn : Nat} (hdn : S.1 1302 = nI dn) (hcd : CntOk V dn) {wk : Nat} (hwk : S.1 803 = nI wk) (hwk1 : 1 ≤ wk) (hwk6 : wk ≤ 6) {r : Nat} (hr : r < 5) : ∀ z, z ≤ 120 → AW none MX11_pays d 0 0 16 [.ref 0, .int (nI r), .int (nI z)] [] (hp S) (Rt (some (.int (nI (pyN V dn wk r z)))) (hp S)) := by
  intro z
  induction z with
  | zero =>
    intro hz
    refine k_iload_n eX11_pays_16 rfl ?_
    refine k_if_leN 40 eX11_pays_17 (by decide) (by omega) (fun c_17 => ?_) (fun c_17 => by exfalso; omega)
    refine k_iload_n eX11_pays_40 rfl ?_
    refine k_ireturn eX11_pays_41 rfl rfl ?_
    exact ⟨rfl, rfl⟩
  | succ z ih =>
    intro hz
    refine k_iload_n eX11_pays_16 rfl ?_
    refine k_if_leN 40 eX11_pays_17 (by decide) (by omega) (fun c_17 => by exfalso; omega) (fun c_17 => ?_)
    refine k_aload_n eX11_pays_20 rfl ?_
    refine GX11_83 eX11_pays_21 rfl ?_
    refine k_iload_n eX11_pays_24 rfl ?_
    refine k_iload_n eX11_pays_25 rfl ?_
    refine k_iconst (v := nI 1) eX11_pays_26 (by decide) ?_
    refine k_isubN eX11_pays_27 (by omega) ?_
    refine cV1 (M' := MX3_bestOn) eX11_pays_28 mX11_199 wX3_bestOn vX3_bestOn ⟨_, _, _, rfl, rfl, rfl⟩ rfl (pX3_bestOn (S := S) (V := V) (dn := dn) (wk := wk) (r := r) (dd := z) hV hdn hcd hwk hwk1 hwk6 (by omega) (by omega)) (by omega) (Nat.le_of_ble_eq_true rfl) ?_
    have hbl := bs_le V dn r z (wk - 1)
    refine k_if_neN 40 eX11_pays_31 (by decide) (by omega) (fun c_31 => ?_) (fun c_31 => ?_)
    · refine k_iload_n eX11_pays_40 rfl ?_
      refine k_ireturn eX11_pays_41 rfl rfl ?_
      exact ⟨by rw [show pyN V dn wk r (z + 1) = z + 1 from if_neg c_31], rfl⟩
    refine k_iinc (v := nI z) (L2 := [_, _, _]) eX11_pays_34 (Nat.le_of_ble_eq_true rfl) rfl (dec1 (Nat.succ_pos z)) rfl ?_
    refine k_goto 16 eX11_pays_37 (by decide) ?_
    rw [show pyN V dn wk r (z + 1) = pyN V dn wk r z from if_pos c_31]
    exact ih (by omega)
set_option maxHeartbeats 400000 in
theorem pX11_pays {S : k_S} {V : k_V} (hV : vC S = V) {dn : Nat} (hdn : S.1 1302 = nI dn) (hcd : CntOk V dn) {wk : Nat} (hwk : S.1 803 = nI wk) (hwk1 : 1 ≤ wk) (hwk6 : wk ≤ 6) {rn : Nat} (hrn : S.1 1003 = nI rn) (hrn5 : rn ≤ 5) (x : Int32) : Sp 5 0 0 MX11_pays [.ref 0, .int (x)] (hp S) (Rt (some (.int (aPay V dn wk (S.1 1003) x))) (hp S)) := by
  refine Sp_of (by decide +kernel) (Nat.le_of_ble_eq_true rfl) ?_
  show AW none MX11_pays 5 0 0 0 [.ref 0, .int (x), .null] [] (hp S) _
  refine k_aload_n eX11_pays_0 rfl ?_
  refine GX11_71 eX11_pays_1 rfl ?_
  refine k_iload_n eX11_pays_4 rfl ?_
  refine cV1 (M' := MX8_has) eX11_pays_5 mX11_175 wX8_has vX8_has ⟨_, _, _, rfl, rfl, rfl⟩ rfl (pX8_has (S := S) (x)) (by decide) (Nat.le_of_ble_eq_true rfl) ?_
  refine k_ifb_ne 13 eX11_pays_8 (by decide) (fun c_8 => ?_) (fun c_8 => ?_)
  · obtain ⟨r, hr, rfl⟩ := pW_ex c_8 hrn (by omega)
    refine k_bipush (v := nI 120) eX11_pays_13 (by decide) ?_
    refine k_istore_n (L2 := [_, _, _]) eX11_pays_15 (Nat.le_of_ble_eq_true rfl) rfl ?_
    rw [aPay, if_pos c_8, ix_nI (by omega)]
    exact lX11_pays (by decide) hV hdn hcd hwk hwk1 hwk6 (by omega) 120 (by omega)
  refine k_iconst (v := (-1)) eX11_pays_11 (by decide) ?_
  refine k_ireturn eX11_pays_12 rfl rfl ?_
  exact ⟨by rw [aPay, if_neg c_8], rfl⟩
set_option maxHeartbeats 400000 in
theorem pX11_best {S : k_S} {V : k_V} (hV : vC S = V) {dn : Nat} (hdn : S.1 1302 = nI dn) (hcd : CntOk V dn) {wk : Nat} (hwk : S.1 803 = nI wk) (hwk1 : 1 ≤ wk) (hwk6 : wk ≤ 6) {rn : Nat} (hrn : S.1 1003 = nI rn) (hrn5 : rn ≤ 5) (r m x : Int32) : Sp 6 0 0 MX11_best [.ref 0, .int (r), .int (m), .int (x)] (hp S) (Rt (some (.int (aBst S V dn wk (S.1 1003) r m x))) (hp (sBst S V dn wk (S.1 1003) r m x))) := by
  refine Sp_of (by decide +kernel) (Nat.le_of_ble_eq_true rfl) ?_
  show AW none MX11_best 6 0 0 0 [.ref 0, .int (r), .int (m), .int (x), .null] [] (hp S) _
  refine k_aload_n eX11_best_0 rfl ?_
  refine GX11_71 eX11_best_1 rfl ?_
  refine k_iload_n eX11_best_4 rfl ?_
  refine cV1 (M' := MX8_has) eX11_best_5 mX11_175 wX8_has vX8_has ⟨_, _, _, rfl, rfl, rfl⟩ rfl (pX8_has (S := S) (r)) (by decide) (Nat.le_of_ble_eq_true rfl) ?_
  refine k_ifb_eq 33 eX11_best_8 (by decide) (fun c_8 => ?_) (fun c_8 => ?_)
  · refine k_ldc eX11_best_33 kX11_168 rfl ?_
    refine k_ireturn eX11_best_35 rfl rfl ?_
    exact ⟨by rw [aBst, if_neg (fun q => by first | exact c_8 q.1 | exact c_18 q.2.1 | exact q.2.2.elim c_23 c_30)], by rw [sBst, if_neg (fun q => by first | exact c_8 q.1 | exact c_18 q.2.1 | exact q.2.2.elim c_23 c_30)]⟩
  refine k_iload_n eX11_best_11 rfl ?_
  refine k_iconst (v := nI 0) eX11_best_12 (by decide) ?_
  refine k_bipush (v := nI 7) eX11_best_13 (by decide) ?_
  refine cS1 (M' := MX11_within) eX11_best_15 mX11_114 wX11_within sX11_within rfl (pX11_within (m) (nI 0) (nI 7)) (by decide) (Nat.le_of_ble_eq_true rfl) ?_
  refine k_ifb_eq 33 eX11_best_18 (by decide) (fun c_18 => ?_) (fun c_18 => ?_)
  · refine k_ldc eX11_best_33 kX11_168 rfl ?_
    refine k_ireturn eX11_best_35 rfl rfl ?_
    exact ⟨by rw [aBst, if_neg (fun q => by first | exact c_8 q.1 | exact c_18 q.2.1 | exact q.2.2.elim c_23 c_30)], by rw [sBst, if_neg (fun q => by first | exact c_8 q.1 | exact c_18 q.2.1 | exact q.2.2.elim c_23 c_30)]⟩
  refine k_iload_n eX11_best_21 rfl ?_
  refine k_iconst (v := (-1)) eX11_best_22 (by decide) ?_
  refine k_icmp_eq 36 eX11_best_23 (by decide) (fun c_23 => ?_) (fun c_23 => ?_)
  · have hC : pBst (S.1 1003) r m x := ⟨c_8, c_18, by first | exact Or.inl c_23 | exact Or.inr c_30⟩
    obtain ⟨r, hr, rfl⟩ := pW_ex c_8 hrn (by omega)
    obtain ⟨m, hm, rfl⟩ := k_rngle c_18.1 c_18.2 (by decide)
    refine k_aload_n eX11_best_36 rfl ?_
    refine GX11_83 eX11_best_37 rfl ?_
    refine k_iload_n eX11_best_40 rfl ?_
    refine k_iload_n eX11_best_41 rfl ?_
    refine cV1 (M' := MX3_chooseBest) eX11_best_42 mX11_193 wX3_chooseBest vX3_chooseBest ⟨_, _, _, rfl, rfl, rfl⟩ rfl (pX3_chooseBest (S := S) (V := V) (dn := dn) (wk := wk) (r := r) (m := m) hV hdn hcd hwk hwk1 hwk6 (by omega) (by omega)) (by decide) (Nat.le_of_ble_eq_true rfl) ?_
    refine k_istore (L2 := [_, _, _, _, _]) eX11_best_45 (Nat.le_of_ble_eq_true rfl) rfl ?_
    refine k_iload_n eX11_best_47 rfl ?_
    refine k_iconst (v := (-1)) eX11_best_48 (by decide) ?_
    refine k_icmp_ne 57 eX11_best_49 (by decide) (fun c_49 => ?_) (fun c_49 => ?_)
    · have hd : pD x := by first | exact c_30 | exact absurd c_23 c_49
      obtain ⟨j, hj, rfl⟩ := pD_ex hd
      refine k_aload_n eX11_best_57 rfl ?_
      refine GX11_83 eX11_best_58 rfl ?_
      refine k_iload_n eX11_best_61 rfl ?_
      refine cV1 (M' := MX3_chosenOn) eX11_best_62 mX11_196 wX3_chosenOn vX3_chosenOn ⟨_, _, _, rfl, rfl, rfl⟩ rfl (pX3_chosenOn (S := (cbE V dn wk r m S).1) (j := j) (by omega)) (by decide) (Nat.le_of_ble_eq_true rfl) ?_
      refine k_ireturn eX11_best_65 rfl rfl ?_
      exact ⟨by rw [aBst, if_pos hC, if_neg c_49, ix_nI (by omega), ix_nI (by omega), ix_nI (by omega)], by rw [sBst, if_pos hC, ix_nI (by omega), ix_nI (by omega)]⟩
    refine k_iload eX11_best_52 rfl ?_
    refine k_goto 65 eX11_best_54 (by decide) ?_
    refine k_ireturn eX11_best_65 rfl rfl ?_
    exact ⟨by rw [aBst, if_pos hC, if_pos (by first | exact c_49 | exact Decidable.not_not.mp c_49), ix_nI (by omega), ix_nI (by omega)], by rw [sBst, if_pos hC, ix_nI (by omega), ix_nI (by omega)]⟩
  refine k_iload_n eX11_best_26 rfl ?_
  refine cS1 (M' := MX11_isDay) eX11_best_27 mX11_122 wX11_isDay sX11_isDay rfl (pX11_isDay (x)) (by decide) (Nat.le_of_ble_eq_true rfl) ?_
  refine k_ifb_ne 36 eX11_best_30 (by decide) (fun c_30 => ?_) (fun c_30 => ?_)
  · have hC : pBst (S.1 1003) r m x := ⟨c_8, c_18, by first | exact Or.inl c_23 | exact Or.inr c_30⟩
    obtain ⟨r, hr, rfl⟩ := pW_ex c_8 hrn (by omega)
    obtain ⟨m, hm, rfl⟩ := k_rngle c_18.1 c_18.2 (by decide)
    refine k_aload_n eX11_best_36 rfl ?_
    refine GX11_83 eX11_best_37 rfl ?_
    refine k_iload_n eX11_best_40 rfl ?_
    refine k_iload_n eX11_best_41 rfl ?_
    refine cV1 (M' := MX3_chooseBest) eX11_best_42 mX11_193 wX3_chooseBest vX3_chooseBest ⟨_, _, _, rfl, rfl, rfl⟩ rfl (pX3_chooseBest (S := S) (V := V) (dn := dn) (wk := wk) (r := r) (m := m) hV hdn hcd hwk hwk1 hwk6 (by omega) (by omega)) (by decide) (Nat.le_of_ble_eq_true rfl) ?_
    refine k_istore (L2 := [_, _, _, _, _]) eX11_best_45 (Nat.le_of_ble_eq_true rfl) rfl ?_
    refine k_iload_n eX11_best_47 rfl ?_
    refine k_iconst (v := (-1)) eX11_best_48 (by decide) ?_
    refine k_icmp_ne 57 eX11_best_49 (by decide) (fun c_49 => ?_) (fun c_49 => ?_)
    · have hd : pD x := by first | exact c_30 | exact absurd c_23 c_49
      obtain ⟨j, hj, rfl⟩ := pD_ex hd
      refine k_aload_n eX11_best_57 rfl ?_
      refine GX11_83 eX11_best_58 rfl ?_
      refine k_iload_n eX11_best_61 rfl ?_
      refine cV1 (M' := MX3_chosenOn) eX11_best_62 mX11_196 wX3_chosenOn vX3_chosenOn ⟨_, _, _, rfl, rfl, rfl⟩ rfl (pX3_chosenOn (S := (cbE V dn wk r m S).1) (j := j) (by omega)) (by decide) (Nat.le_of_ble_eq_true rfl) ?_
      refine k_ireturn eX11_best_65 rfl rfl ?_
      exact ⟨by rw [aBst, if_pos hC, if_neg c_49, ix_nI (by omega), ix_nI (by omega), ix_nI (by omega)], by rw [sBst, if_pos hC, ix_nI (by omega), ix_nI (by omega)]⟩
    refine k_iload eX11_best_52 rfl ?_
    refine k_goto 65 eX11_best_54 (by decide) ?_
    refine k_ireturn eX11_best_65 rfl rfl ?_
    exact ⟨by rw [aBst, if_pos hC, if_pos (by first | exact c_49 | exact Decidable.not_not.mp c_49), ix_nI (by omega), ix_nI (by omega)], by rw [sBst, if_pos hC, ix_nI (by omega), ix_nI (by omega)]⟩
  refine k_ldc eX11_best_33 kX11_168 rfl ?_
  refine k_ireturn eX11_best_35 rfl rfl ?_
  exact ⟨by rw [aBst, if_neg (fun q => by first | exact c_8 q.1 | exact c_18 q.2.1 | exact q.2.2.elim c_23 c_30)], by rw [sBst, if_neg (fun q => by first | exact c_8 q.1 | exact c_18 q.2.1 | exact q.2.2.elim c_23 c_30)]⟩
set_option maxHeartbeats 400000 in
theorem pX11_risk {S : k_S} {V : k_V} (hV : vC S = V) {dn : Nat} (hdn : S.1 1302 = nI dn) (hcd : CntOk V dn) (hpl : PlanOk V) {rn : Nat} (hrn : S.1 1003 = nI rn) (hrn5 : rn ≤ 5) {T : List Int32} (hT : TxOk S 1951 40 T) (x w : Int32) : Sp 5 0 0 MX11_risk [.ref 0, .int (x), .int (w)] (hp S) (Rx (some (.int (aRsk V dn T (S.1 1003) x w))) (fun S' => Frm [1953, 2103, 2253] [41, 44, 47, 48, 49, 50, 51] [] S S')) := by
  refine Sp_of (by decide +kernel) (Nat.le_of_ble_eq_true rfl) ?_
  show AW none MX11_risk 5 0 0 0 [.ref 0, .int (x), .int (w), .null] [] (hp S) _
  refine k_aload_n eX11_risk_0 rfl ?_
  refine k_iload_n eX11_risk_1 rfl ?_
  refine cV1 (M' := MX11_isRunnersDay) eX11_risk_2 mX11_165 wX11_isRunnersDay vX11_isRunnersDay ⟨_, _, _, rfl, rfl, rfl⟩ rfl (pX11_isRunnersDay (S := S) (x)) (by decide) (Nat.le_of_ble_eq_true rfl) ?_
  refine k_ifb_eq 17 eX11_risk_5 (by decide) (fun c_5 => ?_) (fun c_5 => ?_)
  · refine k_iconst (v := (-1)) eX11_risk_17 (by decide) ?_
    refine k_ireturn eX11_risk_18 rfl rfl ?_
    exact ⟨by rw [aRsk, if_neg (fun q => by first | exact c_5 q.1 | exact c_14 q.2)], _, rfl, Frm.rf S⟩
  refine k_iload_n eX11_risk_8 rfl ?_
  refine k_iconst (v := nI 0) eX11_risk_9 (by decide) ?_
  refine k_iconst (v := nI 2) eX11_risk_10 (by decide) ?_
  refine cS1 (M' := MX11_within) eX11_risk_11 mX11_114 wX11_within sX11_within rfl (pX11_within (w) (nI 0) (nI 2)) (by decide) (Nat.le_of_ble_eq_true rfl) ?_
  refine k_ifb_ne 19 eX11_risk_14 (by decide) (fun c_14 => ?_) (fun c_14 => ?_)
  · obtain ⟨z, hz31, rfl, hzr, hzd⟩ := pRD_ex c_5 hrn hrn5
    refine k_iload_n eX11_risk_19 rfl ?_
    refine k_sipush (v := nI 1000) eX11_risk_20 (by decide) ?_
    refine k_iremN eX11_risk_23 (by omega) (by omega) (by omega) ?_
    refine k_istore_n (L2 := [_, _, _, _]) eX11_risk_24 (Nat.le_of_ble_eq_true rfl) rfl ?_
    refine k_aload_n eX11_risk_25 rfl ?_
    refine GX11_101 eX11_risk_26 rfl ?_
    refine k_iload_n eX11_risk_29 rfl ?_
    refine k_sipush (v := nI 1000) eX11_risk_30 (by decide) ?_
    refine k_idivN eX11_risk_33 (by omega) (by omega) (by omega) ?_
    refine k_iload_n eX11_risk_34 rfl ?_
    refine cVX0 (v := .null) (M' := MX4_readRisks) eX11_risk_35 mX11_235 wX4_readRisks vX4_readRisks ⟨_, _, _, rfl, rfl, rfl⟩ rfl (pX4_readRisks (S := S) (V := V) (dn := dn) (r := z / 1000) (la := z % 1000) (T := T) hV hdn hcd hpl (by omega) (by omega) hT) (by decide) (Nat.le_of_ble_eq_true rfl) ?_
    rintro S2 ⟨h49, h50, f2⟩
    have hwl := whl_le V dn (z / 1000) T (z % 1000)
    have hwl2 := whl_le V dn (z / 1000) T (z % 1000 + 1)
    have hrl := rsk_le V dn (z / 1000) T (z % 1000)
    have hws := whl_s V dn (z / 1000) T (z % 1000)
    refine k_iload_n eX11_risk_38 rfl ?_
    refine k_if_ne 51 eX11_risk_39 (by decide) (fun c_39 => ?_) (fun c_39 => ?_)
    · refine k_iload_n eX11_risk_51 rfl ?_
      refine k_iconst (v := nI 1) eX11_risk_52 (by decide) ?_
      refine k_icmp_ne 69 eX11_risk_53 (by decide) (fun c_53 => ?_) (fun c_53 => ?_)
      · refine k_aload_n eX11_risk_69 rfl ?_
        refine GX11_101 eX11_risk_70 rfl ?_
        refine k_iload_n eX11_risk_73 rfl ?_
        refine cV1 (M' := MX4_firstOn) eX11_risk_74 mX11_244 wX4_firstOn vX4_firstOn ⟨_, _, _, rfl, rfl, rfl⟩ rfl (pX4_firstOn (S := S2) (j := z % 1000) (wj := whl V dn (z / 1000) T (z % 1000)) (rj := rsk V dn (z / 1000) T (z % 1000)) (by omega) (h50 _ (by omega)) (h49 _ (by omega)) hwl hrl) (by decide) (Nat.le_of_ble_eq_true rfl) ?_
        refine k_topi (nI (fsO V dn (z / 1000) T (z % 1000))) rfl ?_
        refine k_sipush (v := nI 1000) eX11_risk_77 (by decide) ?_
        refine k_idivN eX11_risk_80 (by omega) (by omega) (by omega) ?_
        refine k_ireturn eX11_risk_81 rfl rfl ?_
        exact ⟨by rw [aRsk, if_pos ⟨c_5, c_14⟩, rrN_nI hz31, ddN_nI hz31, if_neg c_39, if_neg c_53], _, rfl, f2⟩
      refine k_aload_n eX11_risk_56 rfl ?_
      refine GX11_101 eX11_risk_57 rfl ?_
      refine k_iload_n eX11_risk_60 rfl ?_
      refine k_iconst (v := nI 1) eX11_risk_61 (by decide) ?_
      refine k_iaddN eX11_risk_62 ?_
      refine cV1 (M' := MX4_wholeAhead) eX11_risk_63 mX11_241 wX4_wholeAhead vX4_wholeAhead ⟨_, _, _, rfl, rfl, rfl⟩ rfl (pX4_wholeAhead (S := S2) (j := ((z % 1000) + 1)) (by omega)) (by decide) (Nat.le_of_ble_eq_true rfl) ?_
      refine k_topi (nI (whl V dn (z / 1000) T (z % 1000 + 1))) (h50 _ (by omega)) ?_
      refine k_goto 77 eX11_risk_66 (by decide) ?_
      refine k_sipush (v := nI 1000) eX11_risk_77 (by decide) ?_
      refine k_idivN eX11_risk_80 (by omega) (by omega) (by omega) ?_
      refine k_ireturn eX11_risk_81 rfl rfl ?_
      exact ⟨by rw [aRsk, if_pos ⟨c_5, c_14⟩, rrN_nI hz31, ddN_nI hz31, if_neg c_39, if_pos c_53], _, rfl, f2⟩
    refine k_aload_n eX11_risk_42 rfl ?_
    refine GX11_101 eX11_risk_43 rfl ?_
    refine k_iload_n eX11_risk_46 rfl ?_
    refine cV1 (M' := MX4_riskOn) eX11_risk_47 mX11_238 wX4_riskOn vX4_riskOn ⟨_, _, _, rfl, rfl, rfl⟩ rfl (pX4_riskOn (S := S2) (j := (z % 1000)) (by omega)) (by decide) (Nat.le_of_ble_eq_true rfl) ?_
    refine k_topi (nI (rsk V dn (z / 1000) T (z % 1000))) (h49 _ (by omega)) ?_
    refine k_ireturn eX11_risk_50 rfl rfl ?_
    exact ⟨by rw [aRsk, if_pos ⟨c_5, c_14⟩, rrN_nI hz31, ddN_nI hz31, if_pos c_39], _, rfl, f2⟩
  refine k_iconst (v := (-1)) eX11_risk_17 (by decide) ?_
  refine k_ireturn eX11_risk_18 rfl rfl ?_
  exact ⟨by rw [aRsk, if_neg (fun q => by first | exact c_5 q.1 | exact c_14 q.2)], _, rfl, Frm.rf S⟩
set_option maxHeartbeats 400000 in
theorem pX11_mean {S : k_S} {V : k_V} (hV : vC S = V) {dn : Nat} (hdn : S.1 1302 = nI dn) (hcd : CntOk V dn) (hpl : PlanOk V) {rn : Nat} (hrn : S.1 1003 = nI rn) (hrn5 : rn ≤ 5) {T : List Int32} (hT : TxOk S 1951 40 T) {lo : Nat} (hlo : S.1 1907 = nI lo) (hlo2 : lo ≤ 60) (x : Int32) : Sp 6 0 0 MX11_mean [.ref 0, .int (x)] (hp S) (Rx (some (.int (aMea V dn T lo (S.1 1003) x))) (fun S' => Frm [1953, 2103, 2253] [41, 44, 47, 48, 49, 50, 51] [] S S')) := by
  refine Sp_of (by decide +kernel) (Nat.le_of_ble_eq_true rfl) ?_
  show AW none MX11_mean 6 0 0 0 [.ref 0, .int (x)] [] (hp S) _
  refine k_aload_n eX11_mean_0 rfl ?_
  refine k_iload_n eX11_mean_1 rfl ?_
  refine cV1 (M' := MX11_isRunnersDay) eX11_mean_2 mX11_165 wX11_isRunnersDay vX11_isRunnersDay ⟨_, _, _, rfl, rfl, rfl⟩ rfl (pX11_isRunnersDay (S := S) (x)) (by decide) (Nat.le_of_ble_eq_true rfl) ?_
  refine k_ifb_eq 28 eX11_mean_5 (by decide) (fun c_5 => ?_) (fun c_5 => ?_)
  · refine k_ldc eX11_mean_28 kX11_168 rfl ?_
    refine k_ireturn eX11_mean_30 rfl rfl ?_
    exact ⟨by rw [aMea, if_neg c_5], _, rfl, Frm.rf S⟩
  obtain ⟨z, hz31, rfl, hzr, hzd⟩ := pRD_ex c_5 hrn hrn5
  refine k_aload_n eX11_mean_8 rfl ?_
  refine GX11_101 eX11_mean_9 rfl ?_
  refine k_iload_n eX11_mean_12 rfl ?_
  refine k_sipush (v := nI 1000) eX11_mean_13 (by decide) ?_
  refine k_idivN eX11_mean_16 (by omega) (by omega) (by omega) ?_
  refine k_iload_n eX11_mean_17 rfl ?_
  refine k_sipush (v := nI 1000) eX11_mean_18 (by decide) ?_
  refine k_iremN eX11_mean_21 (by omega) (by omega) (by omega) ?_
  refine cVX1 (M' := MX4_meanFit) eX11_mean_22 mX11_250 wX4_meanFit vX4_meanFit ⟨_, _, _, rfl, rfl, rfl⟩ rfl (pX4_meanFit (S := S) (V := V) (dn := dn) (r := (z / 1000)) (dd := (z % 1000)) (lo := lo) (T := T) hV hdn hcd hpl (by omega) (by omega) hlo hlo2 hT) (by decide) (Nat.le_of_ble_eq_true rfl) ?_
  intro S2 f2
  refine k_goto 30 eX11_mean_25 (by decide) ?_
  refine k_ireturn eX11_mean_30 rfl rfl ?_
  exact ⟨by rw [aMea, if_pos c_5, rrN_nI hz31, ddN_nI hz31], _, rfl, f2⟩
set_option maxHeartbeats 400000 in
theorem pX11_judge {S : k_S} {V : k_V} (hV : vC S = V) {dn : Nat} (hdn : S.1 1302 = nI dn) (hcd : CntOk V dn) (hpl : PlanOk V) {rn : Nat} (hrn : S.1 1003 = nI rn) (hrn5 : rn ≤ 5) {T : List Int32} (hT : TxOk S 2101 43 T) (x : Int32) : Sp 5 0 0 MX11_judge [.ref 0, .int (x)] (hp S) (Rx (some (.int (aJdg V dn T (S.1 1003) x))) (fun S' => Frm [1953, 2103, 2253] [41, 44, 47, 48, 49, 50, 51] [] S S')) := by
  refine Sp_of (by decide +kernel) (Nat.le_of_ble_eq_true rfl) ?_
  show AW none MX11_judge 5 0 0 0 [.ref 0, .int (x)] [] (hp S) _
  refine k_aload_n eX11_judge_0 rfl ?_
  refine GX11_71 eX11_judge_1 rfl ?_
  refine k_iload_n eX11_judge_4 rfl ?_
  refine cV1 (M' := MX8_has) eX11_judge_5 mX11_175 wX8_has vX8_has ⟨_, _, _, rfl, rfl, rfl⟩ rfl (pX8_has (S := S) (x)) (by decide) (Nat.le_of_ble_eq_true rfl) ?_
  refine k_ifb_eq 22 eX11_judge_8 (by decide) (fun c_8 => ?_) (fun c_8 => ?_)
  · refine k_iconst (v := (-1)) eX11_judge_22 (by decide) ?_
    refine k_ireturn eX11_judge_23 rfl rfl ?_
    exact ⟨by rw [aJdg, if_neg c_8], _, rfl, Frm.rf S⟩
  obtain ⟨r, hr, rfl⟩ := pW_ex c_8 hrn (by omega)
  refine k_aload_n eX11_judge_11 rfl ?_
  refine GX11_101 eX11_judge_12 rfl ?_
  refine k_iload_n eX11_judge_15 rfl ?_
  refine cVX1 (M' := MX4_firstTooMuch) eX11_judge_16 mX11_253 wX4_firstTooMuch vX4_firstTooMuch ⟨_, _, _, rfl, rfl, rfl⟩ rfl (pX4_firstTooMuch (S := S) (V := V) (dn := dn) (r := r) (T := T) hV hdn hcd hpl (by omega) hT) (by decide) (Nat.le_of_ble_eq_true rfl) ?_
  intro S2 f2
  refine k_goto 23 eX11_judge_19 (by decide) ?_
  refine k_ireturn eX11_judge_23 rfl rfl ?_
  exact ⟨by rw [aJdg, if_pos c_8, ix_nI (by omega)], _, rfl, f2⟩
