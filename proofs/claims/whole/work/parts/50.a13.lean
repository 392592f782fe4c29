/-- the nine rows with another plan; what is felt of a day then; the plan's row, j days felt -/
def vP (V : k_V) (p : Nat → Int32) : k_V := fun k => if k = 6 then p else V k
def flV (V : k_V) (dn r : Nat) (T : List Int32) (p : Nat → Int32) (d : Nat) : Int32 := gv (nmA (vP V p) dn r d) T false []
def flW (V : k_V) (dn r : Nat) (T : List Int32) (kw : Int32) (p : Nat → Int32) (d : Nat) : Int32 := if pW kw (flV V dn r T p d) then flV V dn r T p d else nI 0
def flP (V : k_V) (dn r : Nat) (T : List Int32) (kw : Int32) (o : Nat) (p : Nat → Int32) : Nat → Nat → Int32
  | 0 => p
  | j + 1 => va_up (flP V dn r T kw o p j) (o + j) (flW V dn r T kw (flP V dn r T kw o p j) (o + j))
theorem vP_6 (V : k_V) (p : Nat → Int32) : vP V p 6 = p := if_pos rfl
theorem vP_cnt {V : k_V} {dn : Nat} (p : Nat → Int32) (h : CntOk V dn) : CntOk (vP V p) dn := h
theorem flP_ok {V : k_V} {dn r : Nat} {T : List Int32} {kw : Int32} {o wk : Nat} {p : Nat → Int32} (hk : kw = nI wk) (hwk : wk ≤ 6) (hp0 : PlanOk (vP V p)) : ∀ j, PlanOk (vP V (flP V dn r T kw o p j))
  | 0 => hp0
  | j + 1 => by
    intro d hd
    have ih := flP_ok (dn := dn) (r := r) (T := T) (o := o) hk hwk hp0 j d hd
    have e : vP V (flP V dn r T kw o p (j + 1)) 6 d = if d = o + j then flW V dn r T kw (flP V dn r T kw o p j) (o + j) else vP V (flP V dn r T kw o p j) 6 d := rfl
    unfold pw
    by_cases c : d = o + j
    · rw [e, if_pos c, flW]
      by_cases c2 : pW kw (flV V dn r T (flP V dn r T kw o p j) (o + j))
      · obtain ⟨x, hx, ex⟩ := pW_ex c2 hk (by omega)
        rw [if_pos c2, ex, ix_nI (by omega)]; exact ⟨rfl, by omega⟩
      · rw [if_neg c2, ix_nI (by omega)]; exact ⟨rfl, by omega⟩
    · rw [e, if_neg c]; exact ih
theorem Frm.P {I A J : List Nat} {S T : k_S} (h : Frm I A J S T) (hA : ∀ a ∈ [17, 18, 19, 21, 22, 23, 27, 28], a ∉ A) : vC T = vP (vC S) (T.2.1 25) := by
  funext k
  match k with
  | 0 => exact h.2.1 17 (hA 17 (by decide))
  | 1 => exact h.2.1 18 (hA 18 (by decide))
  | 2 => exact h.2.1 19 (hA 19 (by decide))
  | 3 => exact h.2.1 21 (hA 21 (by decide))
  | 4 => exact h.2.1 22 (hA 22 (by decide))
  | 5 => exact h.2.1 23 (hA 23 (by decide))
  | 6 => rfl
  | 7 => exact h.2.1 27 (hA 27 (by decide))
  | n + 8 => exact h.2.1 28 (hA 28 (by decide))
abbrev pFel (kr r x : Int32) : Prop := pW kr r ∧ pSpn x
def felR (V : k_V) (dn : Nat) (T : List Int32) (kw r x : Int32) : Nat → Int32 := flP V dn (ix r) T kw (rrN x) (V 6) (ddN x + 1 - rrN x)
def aFel (V : k_V) (dn : Nat) (T : List Int32) (kr kw r x : Int32) : Int32 := if pFel kr r x then nI (cnt (felR V dn T kw r x) (rrN x) (ddN x + 1 - rrN x)) else -1
set_option maxHeartbeats 400000 in
theorem lX11_feel {d0 : Nat} (hdd : 5 ≤ d0) {S0 : k_S} {V : k_V} (hV : vC S0 = V) {dn : Nat} (hdn : S0.1 1302 = nI dn) (hcd : CntOk V dn) (hpl : PlanOk V) {wk : Nat} (hwk : S0.1 803 = nI wk) (hwk1 : 1 ≤ wk) (hwk6 : wk ≤ 6) {T : List Int32} (hT : TxOk S0 2251 46 T) {u z : Nat} (hu : u < 5) (hz31 : z < 2 ^ 31) (hz1 : z / 1000 ≤ z % 1000) (hz2 : z % 1000 < 120) : ∀ (k j : Nat) (S : k_S), j + k = z % 1000 + 1 - z / 1000 → (S.2.1 25 = flP V dn u T (S0.1 803) (z / 1000) (V 6) j) → (S.1 1656 = nI 0) → (S.1 1657 = nI 0) → (Frm [1656, 1657, 1953, 2103, 2253] [25, 41, 44, 47, 48, 49, 50, 51] [] S0 S) → AW none MX11_feel d0 0 0 33 [.ref 0, .int (nI u), .int (nI z), .int (nI (z / 1000 + j)), .null] [] (hp S) (Rx (some (.int (nI (cnt (flP V dn u T (S0.1 803) (z / 1000) (V 6) (z % 1000 + 1 - z / 1000)) (z / 1000) (z % 1000 + 1 - z / 1000))))) (fun S' => S'.2.1 25 = flP V dn u T (S0.1 803) (z / 1000) (V 6) (z % 1000 + 1 - z / 1000) ∧ S'.1 1656 = nI 0 ∧ S'.1 1657 = nI 0 ∧ Frm [1656, 1657, 1953, 2103, 2253] [25, 41, 44, 47, 48, 49, 50, 51] [] S0 S')) := by
  intro k
  induction k with
  | zero =>
    intro j S hj h25 hc1 hc2 f0
    have ej : j = z % 1000 + 1 - z / 1000 := by omega
    subst ej
    refine k_iload_n eX11_feel_33 rfl ?_
    refine k_iload_n eX11_feel_34 rfl ?_
    refine k_sipush (v := nI 1000) eX11_feel_35 (by decide) ?_
    refine k_iremN eX11_feel_38 (by omega) (by omega) (by omega) ?_
    refine k_icmp_gtN 85 eX11_feel_39 (by decide) (by omega) (by omega) (fun c_39 => ?_) (fun c_39 => by exfalso; omega)
    refine k_aload_n eX11_feel_85 rfl ?_
    refine GX11_75 eX11_feel_86 rfl ?_
    refine k_iload_n eX11_feel_89 rfl ?_
    refine k_sipush (v := nI 1000) eX11_feel_90 (by decide) ?_
    refine k_idivN eX11_feel_93 (by omega) (by omega) (by omega) ?_
    refine k_iload_n eX11_feel_94 rfl ?_
    refine k_sipush (v := nI 1000) eX11_feel_95 (by decide) ?_
    refine k_iremN eX11_feel_98 (by omega) (by omega) (by omega) ?_
    refine cV1 (M' := MX2_working) eX11_feel_99 mX11_158 wX2_working vX2_working ⟨_, _, _, rfl, rfl, rfl⟩ rfl (pX2_working (S := S) (a := (z / 1000)) (b := (z % 1000)) (by omega) (by omega)) (by omega) (Nat.le_of_ble_eq_true rfl) ?_
    refine k_ireturn eX11_feel_102 rfl rfl ?_
    exact ⟨by rw [h25, show z % 1000 + 1 - z / 1000 = z % 1000 + 1 - z / 1000 from rfl], S, rfl, h25, hc1, hc2, f0⟩
  | succ k ih =>
    intro j S hj h25 hc1 hc2 f0
    have hV1 : vC S = vP V (flP V dn u T (S0.1 803) (z / 1000) (V 6) j) := by rw [f0.P (by decide), hV, h25]
    have hdn1 : S.1 1302 = nI dn := (f0.1 1302 (by decide)).trans hdn
    have hpl1 : PlanOk (vP V (flP V dn u T (S0.1 803) (z / 1000) (V 6) j)) := flP_ok hwk hwk6 (p := V 6) hpl j
    have hT1 : TxOk S 2251 46 T := hT.fr f0 (by decide) (by decide)
    refine k_iload_n eX11_feel_33 rfl ?_
    refine k_iload_n eX11_feel_34 rfl ?_
    refine k_sipush (v := nI 1000) eX11_feel_35 (by decide) ?_
    refine k_iremN eX11_feel_38 (by omega) (by omega) (by omega) ?_
    refine k_icmp_gtN 85 eX11_feel_39 (by decide) (by omega) (by omega) (fun c_39 => by exfalso; omega) (fun c_39 => ?_)
    refine k_aload_n eX11_feel_42 rfl ?_
    refine GX11_101 eX11_feel_43 rfl ?_
    refine k_iload_n eX11_feel_46 rfl ?_
    refine k_iload_n eX11_feel_47 rfl ?_
    refine cVX1 (M' := MX4_felt) eX11_feel_48 mX11_256 wX4_felt vX4_felt ⟨_, _, _, rfl, rfl, rfl⟩ rfl (pX4_felt (S := S) (V := vP V (flP V dn u T (S0.1 803) (z / 1000) (V 6) j)) (dn := dn) (r := u) (dd := z / 1000 + j) (T := T) hV1 hdn1 hcd hpl1 (by omega) (by omega) hT1) (by omega) (Nat.le_of_ble_eq_true rfl) ?_
    intro S2 f2
    have hw2 : S2.1 803 = S0.1 803 := (f2.1 803 (by decide)).trans (f0.1 803 (by decide))
    refine k_istore (L2 := [_, _, _, _, _]) eX11_feel_51 (Nat.le_of_ble_eq_true rfl) rfl ?_
    refine k_aload_n eX11_feel_53 rfl ?_
    refine GX11_75 eX11_feel_54 rfl ?_
    refine k_iload_n eX11_feel_57 rfl ?_
    refine k_aload_n eX11_feel_58 rfl ?_
    refine GX11_67 eX11_feel_59 rfl ?_
    refine k_iload eX11_feel_62 rfl ?_
    refine cV1 (M' := MX10_has) eX11_feel_64 mX11_110 wX10_has vX10_has ⟨_, _, _, rfl, rfl, rfl⟩ rfl (pX10_has (S := S2) ((flV V dn u T (flP V dn u T (S0.1 803) (z / 1000) (V 6) j) (z / 1000 + j)))) (by omega) (Nat.le_of_ble_eq_true rfl) ?_
    refine k_ifb_eq 75 eX11_feel_67 (by decide) (fun c_67 => ?_) (fun c_67 => ?_)
    · refine k_iconst (v := nI 0) eX11_feel_75 (by decide) ?_
      refine cV0 (M' := MX2_set) eX11_feel_76 mX11_142 wX2_set vX2_set ⟨_, _, _, rfl, rfl, rfl⟩ rfl (pX2_set (S := S2) (j := (z / 1000 + j)) (nI 0) (by omega)) (by omega) (Nat.le_of_ble_eq_true rfl) ?_
      refine k_iincN (g := 1) (a := (z / 1000 + j)) (L2 := [_, _, _, _, _]) eX11_feel_79 (Nat.le_of_ble_eq_true rfl) rfl rfl ?_
      refine k_goto 33 eX11_feel_82 (by decide) ?_
      have hq : ¬ pW (S0.1 803) (flV V dn u T (flP V dn u T (S0.1 803) (z / 1000) (V 6) j) (z / 1000 + j)) := by have c9 := c_67; rw [hw2] at c9; exact c9
      refine k_forget 4 (L2 := [_, _, _, _, _]) rfl ?_
      refine ih (j + 1) _ (by omega) ?_ ((f2.1 1656 (by decide)).trans hc1) ((f2.1 1657 (by decide)).trans hc2) ((f0.tr (f2.wk (by decide) (by decide) (by decide))).sa (by decide) _)
      show va_up (S2.2.1 25) (z / 1000 + j) _ = _
      rw [f2.2.1 25 (by decide), h25, flP, flW, if_neg hq]
    refine k_iload eX11_feel_70 rfl ?_
    refine k_goto 76 eX11_feel_72 (by decide) ?_
    refine cV0 (M' := MX2_set) eX11_feel_76 mX11_142 wX2_set vX2_set ⟨_, _, _, rfl, rfl, rfl⟩ rfl (pX2_set (S := S2) (j := (z / 1000 + j)) ((flV V dn u T (flP V dn u T (S0.1 803) (z / 1000) (V 6) j) (z / 1000 + j))) (by omega)) (by omega) (Nat.le_of_ble_eq_true rfl) ?_
    refine k_iincN (g := 1) (a := (z / 1000 + j)) (L2 := [_, _, _, _, _]) eX11_feel_79 (Nat.le_of_ble_eq_true rfl) rfl rfl ?_
    refine k_goto 33 eX11_feel_82 (by decide) ?_
    have hq : pW (S0.1 803) (flV V dn u T (flP V dn u T (S0.1 803) (z / 1000) (V 6) j) (z / 1000 + j)) := by have c9 := c_67; rw [hw2] at c9; exact c9
    refine k_forget 4 (L2 := [_, _, _, _, _]) rfl ?_
    refine ih (j + 1) _ (by omega) ?_ ((f2.1 1656 (by decide)).trans hc1) ((f2.1 1657 (by decide)).trans hc2) ((f0.tr (f2.wk (by decide) (by decide) (by decide))).sa (by decide) _)
    show va_up (S2.2.1 25) (z / 1000 + j) _ = _
    rw [f2.2.1 25 (by decide), h25, flP, flW, if_pos hq]
set_option maxHeartbeats 400000 in
theorem pX11_feel {S : k_S} {V : k_V} (hV : vC S = V) {dn : Nat} (hdn : S.1 1302 = nI dn) (hcd : CntOk V dn) (hpl : PlanOk V) {rn : Nat} (hrn : S.1 1003 = nI rn) (hrn5 : rn ≤ 5) {wk : Nat} (hwk : S.1 803 = nI wk) (hwk1 : 1 ≤ wk) (hwk6 : wk ≤ 6) {T : List Int32} (hT : TxOk S 2251 46 T) (r x : Int32) : Sp 5 0 0 MX11_feel [.ref 0, .int (r), .int (x)] (hp S) (Rx (some (.int (aFel V dn T (S.1 1003) (S.1 803) r x))) (fun S' => (pFel (S.1 1003) r x → S'.2.1 25 = felR V dn T (S.1 803) r x ∧ S'.1 1656 = nI 0 ∧ S'.1 1657 = nI 0 ∧ Frm [1656, 1657, 1953, 2103, 2253] [25, 41, 44, 47, 48, 49, 50, 51] [] S S') ∧ (¬ pFel (S.1 1003) r x → S' = S))) := by
  refine Sp_of (by decide +kernel) (Nat.le_of_ble_eq_true rfl) ?_
  show AW none MX11_feel 5 0 0 0 [.ref 0, .int (r), .int (x), .null, .null] [] (hp S) _
  refine k_aload_n eX11_feel_0 rfl ?_
  refine GX11_71 eX11_feel_1 rfl ?_
  refine k_iload_n eX11_feel_4 rfl ?_
  refine cV1 (M' := MX8_has) eX11_feel_5 mX11_175 wX8_has vX8_has ⟨_, _, _, rfl, rfl, rfl⟩ rfl (pX8_has (S := S) (r)) (by decide) (Nat.le_of_ble_eq_true rfl) ?_
  refine k_ifb_eq 18 eX11_feel_8 (by decide) (fun c_8 => ?_) (fun c_8 => ?_)
  · refine k_iconst (v := (-1)) eX11_feel_18 (by decide) ?_
    refine k_ireturn eX11_feel_19 rfl rfl ?_
    have hN : ¬ pFel (S.1 1003) r x := (fun q => by first | exact c_8 q.1 | exact c_15 q.2)
    exact ⟨by rw [aFel, if_neg hN], S, rfl, fun q => absurd q hN, fun _ => rfl⟩
  refine k_iload_n eX11_feel_11 rfl ?_
  refine cS1 (M' := MX11_isSpan) eX11_feel_12 mX11_146 wX11_isSpan sX11_isSpan rfl (pX11_isSpan (x)) (by decide) (Nat.le_of_ble_eq_true rfl) ?_
  refine k_ifb_ne 20 eX11_feel_15 (by decide) (fun c_15 => ?_) (fun c_15 => ?_)
  · have hC : pFel (S.1 1003) r x := ⟨c_8, c_15⟩
    obtain ⟨u, hu, rfl⟩ := pW_ex c_8 hrn (by omega)
    obtain ⟨z, hz31, rfl, hz0, hz2, hz1⟩ := pSpn_ex c_15
    refine k_aload_n eX11_feel_20 rfl ?_
    refine GX11_92 eX11_feel_21 rfl ?_
    refine cV0 (M' := MX1_clear) eX11_feel_24 mX11_132 wX1_clear vX1_clear ⟨_, _, _, rfl, rfl, rfl⟩ rfl (pX1_clear (S := S) ) (by decide) (Nat.le_of_ble_eq_true rfl) ?_
    refine k_iload_n eX11_feel_27 rfl ?_
    refine k_sipush (v := nI 1000) eX11_feel_28 (by decide) ?_
    refine k_idivN eX11_feel_31 (by omega) (by omega) (by omega) ?_
    refine k_istore_n (L2 := [_, _, _, _, _]) eX11_feel_32 (Nat.le_of_ble_eq_true rfl) rfl ?_
    have eR : felR V dn T (S.1 803) (nI u) (nI z) = flP V dn u T (S.1 803) (z / 1000) (V 6) (z % 1000 + 1 - z / 1000) := by rw [felR, ix_nI (by omega), rrN_nI hz31, ddN_nI hz31]
    refine k_loc (L2 := [_, _, _, .int (nI (z / 1000 + 0)), _]) rfl ?_
    refine AW.mono (lX11_feel (by decide) (S0 := (si (si S 1656 (nI 0)) 1657 (nI 0))) hV hdn hcd hpl hwk hwk1 hwk6 (T := T) (hT.fr (((Frm.rf (I := [1656, 1657]) (A := []) (J := []) S).si (by decide) _).si (by decide) _) (by decide) (by decide)) (u := u) (z := z) (by omega) hz31 hz1 hz2 (z % 1000 + 1 - z / 1000) 0 (si (si S 1656 (nI 0)) 1657 (nI 0)) (by omega) (congrFun hV 6) rfl rfl (Frm.rf _)) ?_
    rintro rr hh ⟨e1, S', e2, h25, h1, h2, f9⟩
    exact ⟨by rw [e1, aFel, if_pos hC, eR, rrN_nI hz31, ddN_nI hz31]; rfl, S', e2, fun _ => ⟨by rw [eR]; exact h25, h1, h2, (((Frm.rf S).si (by decide) _).si (by decide) _).tr f9⟩, fun q => absurd hC q⟩
  refine k_iconst (v := (-1)) eX11_feel_18 (by decide) ?_
  refine k_ireturn eX11_feel_19 rfl rfl ?_
  have hN : ¬ pFel (S.1 1003) r x := (fun q => by first | exact c_8 q.1 | exact c_15 q.2)
  exact ⟨by rw [aFel, if_neg hN], S, rfl, fun q => absurd q hN, fun _ => rfl⟩
