/-! HURT -/
/-- how much more a day tires than the seven ahead of it -/
def jmp (V : k_V) (d : Nat) : Int32 := if d = 0 then nI 0 else V 0 (pw V d) - sumN (fun j => V 0 (pw V (d - min d 7 + j))) (min d 7) / nI (min d 7)
/-- what the names mean on a day by the plan; on a day by feel -/
def nmV (V : k_V) (dn r d : Nat) : Nat → Int32
  | 0 => tSum V r d (d + 1) / nI 1000
  | 1 => sSum V r d (d + 1) / nI 1000
  | 2 => nI (pw V d)
  | 3 => jmp V d
  | 4 => nI d
  | 5 => V 2 (pw V d)
  | 6 => gNx V dn d
  | _ => nI 0
def ahW (V : k_V) (d : Nat) : Int32 := if d = 0 then nI 0 else nI (pw V (d - 1))
def nmA (V : k_V) (dn r d : Nat) : Nat → Int32
  | 0 => tSum V r d d / nI 1000
  | 1 => sSum V r d d / nI 1000
  | 2 => ahW V d
  | 3 => nI 0
  | 4 => nI d
  | 5 => nI 0
  | 6 => gNx V dn d
  | _ => nI 0
/-- what the plan's work of a day brings day n0 - 1 -/
def bg (V : k_V) (r n0 j : Nat) : Int32 := if j < n0 then pts V r (pw V j) (n0 - 1 - j) else nI 0
theorem all7 {P : Nat → Prop} (h0 : P 0) (h1 : P 1) (h2 : P 2) (h3 : P 3) (h4 : P 4) (h5 : P 5) (h6 : P 6) : ∀ k, k < 7 → P k
  | 0, _ => h0
  | 1, _ => h1
  | 2, _ => h2
  | 3, _ => h3
  | 4, _ => h4
  | 5, _ => h5
  | 6, _ => h6
  | n + 7, h => absurd h (by omega)
theorem gv_congr {f g : Nat → Int32} (h : ∀ k, k < 7 → f k = g k) : ∀ (l : List Int32) (sk : Bool) (st : List Int32), gv f l sk st = gv g l sk st
  | [], _, _ => rfl
  | x :: r, sk, st => by
    have e : stepL f (-x) st = stepL g (-x) st := by
      unfold stepL
      by_cases c : 0 ≤ nam (-x)
      · rw [if_pos c, if_pos c, h _ (nam_rng _ c).2]
      · rw [if_neg c, if_neg c]
    rw [gv, gv, e]
    by_cases c1 : sk = true
    · rw [if_pos c1, if_pos c1]; exact gv_congr h r _ _
    by_cases c2 : -x = nI 59
    · rw [if_neg c1, if_neg c1, if_pos c2, if_pos c2]
    by_cases c3 : -x = nI 63
    · rw [if_neg c1, if_neg c1, if_neg c2, if_neg c2, if_pos c3, if_pos c3]; exact gv_congr h r _ _
    · rw [if_neg c1, if_neg c1, if_neg c2, if_neg c2, if_neg c3, if_neg c3]; exact gv_congr h r _ _
theorem Frm.V {I A J : List Nat} {S T : k_S} (h : Frm I A J S T) (hA : ∀ a ∈ [17, 18, 19, 21, 22, 23, 25, 27, 28], a ∉ A) : vC T = vC S := by
  funext k
  match k with
  | 0 => exact h.2.1 17 (hA 17 (by decide))
  | 1 => exact h.2.1 18 (hA 18 (by decide))
  | 2 => exact h.2.1 19 (hA 19 (by decide))
  | 3 => exact h.2.1 21 (hA 21 (by decide))
  | 4 => exact h.2.1 22 (hA 22 (by decide))
  | 5 => exact h.2.1 23 (hA 23 (by decide))
  | 6 => exact h.2.1 25 (hA 25 (by decide))
  | 7 => exact h.2.1 27 (hA 27 (by decide))
  | n + 8 => exact h.2.1 28 (hA 28 (by decide))
/-- a text that holds together -/
def TxOk (S : k_S) (kc cr : Nat) (T : List Int32) : Prop := ∃ n0, S.1 kc = nI n0 ∧ n0 ≤ 240 ∧ T = cds (S.2.1 cr) 0 n0 ∧ wfc T 0
theorem TxOk.fr {I A J : List Nat} {S U : k_S} {kc cr : Nat} {T : List Int32} (h : TxOk S kc cr T) (f : Frm I A J S U) (hk : kc ∉ I) (hc : cr ∉ A) : TxOk U kc cr T := by
  obtain ⟨n0, h1, h2, h3, h4⟩ := h
  exact ⟨n0, (f.1 kc hk).trans h1, h2, by rw [f.2.1 cr hc]; exact h3, h4⟩
theorem gX9_39 {S : k_S} {T : List Int32} (h : TxOk S 1951 40 T) : Sp 3 0 0 MX9_given [.ref 39, .ref 48] (hp S) (Rx (some (.int (gv (S.2.1 48) T false []))) (fun U => Frm [1953] [41] [] S U)) := by
  obtain ⟨n0, h1, h2, h3, h4⟩ := h
  subst h3
  exact pX9_given39 h1 h2 h4
theorem gX9_42 {S : k_S} {T : List Int32} (h : TxOk S 2101 43 T) : Sp 3 0 0 MX9_given [.ref 42, .ref 48] (hp S) (Rx (some (.int (gv (S.2.1 48) T false []))) (fun U => Frm [2103] [44] [] S U)) := by
  obtain ⟨n0, h1, h2, h3, h4⟩ := h
  subst h3
  exact pX9_given42 h1 h2 h4
theorem gX9_45 {S : k_S} {T : List Int32} (h : TxOk S 2251 46 T) : Sp 3 0 0 MX9_given [.ref 45, .ref 48] (hp S) (Rx (some (.int (gv (S.2.1 48) T false []))) (fun U => Frm [2253] [47] [] S U)) := by
  obtain ⟨n0, h1, h2, h3, h4⟩ := h
  subst h3
  exact pX9_given45 h1 h2 h4
set_option maxHeartbeats 400000 in
theorem pX2_atI {S : k_S} (x : Int32) : Sp 1 0 0 MX2_at [.ref 24, .int (x)] (hp S) (Rt (some (.int (rd 120 (S.2.1 25) x))) (hp S)) := by
  refine Sp_of (by decide +kernel) (Nat.le_of_ble_eq_true rfl) ?_
  show AW none MX2_at 1 0 0 0 [.ref 24, .int (x)] [] (hp S) _
  refine k_aload_n eX2_at_0 rfl ?_
  refine GX2_9 eX2_at_1 rfl ?_
  refine k_iload_n eX2_at_4 rfl ?_
  refine cN1 (M' := MX11_read) eX2_at_5 mX2_15 wX11_read sX11_read rfl (pX11_read (i := x) (ar25 _) (by decide)) (by decide) (Nat.le_of_ble_eq_true rfl) ?_
  refine k_ireturn eX2_at_8 rfl rfl ?_
  exact ⟨rfl, rfl⟩
set_option maxHeartbeats 400000 in
theorem lX4_jumpOn {d : Nat} {Po : Option Value → k_H → Prop} (hdd : 2 ≤ d) {S : k_S} {V : k_V} (hV : vC S = V) (hpl : PlanOk V){dd : Nat} (hdd2 : dd < 120) (h0 : 0 < dd) (kx : AW none MX4_jumpOn d 0 0 54 [.ref 38, .int (nI dd), .int (nI (min dd 7)), .int (sumN (fun j => V 0 (pw V (dd - min dd 7 + j))) ((min dd 7))), .int (nI (dd - min dd 7 + ((min dd 7))))] [] (hp S) Po) : ∀ (n j : Nat), j + n = (min dd 7) → AW none MX4_jumpOn d 0 0 20 [.ref 38, .int (nI dd), .int (nI (min dd 7)), .int (sumN (fun j => V 0 (pw V (dd - min dd 7 + j))) j), .int (nI (dd - min dd 7 + j))] [] (hp S) Po := by
  intro n
  induction n with
  | zero =>
    intro j hj
    rw [show j = (min dd 7) by omega]
    refine k_iload eX4_jumpOn_20 rfl ?_
    refine k_iload_n eX4_jumpOn_22 rfl ?_
    refine k_icmp_geN 54 eX4_jumpOn_23 (by decide) (by omega) (by omega) (fun c_23 => ?_) (fun c_23 => by exfalso; omega)
    exact kx
  | succ n ih =>
    intro j hj
    refine k_iload eX4_jumpOn_20 rfl ?_
    refine k_iload_n eX4_jumpOn_22 rfl ?_
    refine k_icmp_geN 54 eX4_jumpOn_23 (by decide) (by omega) (by omega) (fun c_23 => by exfalso; omega) (fun c_23 => ?_)
    have hpw := hpl.lt (d := dd - min dd 7 + j) (by omega)
    refine k_iload_n eX4_jumpOn_26 rfl ?_
    refine k_aload_n eX4_jumpOn_27 rfl ?_
    refine GX4_45 eX4_jumpOn_28 rfl ?_
    refine GX4_117 eX4_jumpOn_31 rfl ?_
    refine k_aload_n eX4_jumpOn_34 rfl ?_
    refine GX4_49 eX4_jumpOn_35 rfl ?_
    refine k_iload eX4_jumpOn_38 rfl ?_
    refine cV1 (M' := MX2_at) eX4_jumpOn_40 mX4_90 wX2_at vX2_at ⟨_, _, _, rfl, rfl, rfl⟩ rfl (pX2_at (S := S) (j := (dd - min dd 7 + j)) (by omega)) (by omega) (Nat.le_of_ble_eq_true rfl) ?_
    refine k_topi (nI (pw V (dd - min dd 7 + j))) (vpl hV hpl (by omega)) ?_
    refine cN1 (M' := MX11_read) eX4_jumpOn_43 mX4_79 wX11_read sX11_read rfl (pX11_readN (j := (pw V (dd - min dd 7 + j))) (ar17 _) (by omega) (by decide)) (by omega) (Nat.le_of_ble_eq_true rfl) ?_
    refine k_topi ((V 0 (pw V (dd - min dd 7 + j)))) (congrFun (congrFun hV 0) _) ?_
    refine k_iadd eX4_jumpOn_46 ?_
    refine k_istore_n (L2 := [_, _, _, _, _]) eX4_jumpOn_47 (Nat.le_of_ble_eq_true rfl) rfl ?_
    refine k_iincN (g := 1) (a := (dd - min dd 7 + j)) (L2 := [_, _, _, _, _]) eX4_jumpOn_48 (Nat.le_of_ble_eq_true rfl) rfl rfl ?_
    refine k_goto 20 eX4_jumpOn_51 (by decide) ?_
    exact ih (j + 1) (by omega)
set_option maxHeartbeats 400000 in
theorem pX4_jumpOn {S : k_S} {V : k_V} (hV : vC S = V) (hpl : PlanOk V){dd : Nat} (hdd2 : dd < 120) : Sp 2 0 0 MX4_jumpOn [.ref 38, .int (nI dd)] (hp S) (Rt (some (.int (jmp V dd))) (hp S)) := by
  refine Sp_of (by decide +kernel) (Nat.le_of_ble_eq_true rfl) ?_
  show AW none MX4_jumpOn 2 0 0 0 [.ref 38, .int (nI dd), .null, .null, .null] [] (hp S) _
  refine k_iload_n eX4_jumpOn_0 rfl ?_
  refine k_bipush (v := nI 7) eX4_jumpOn_1 (by decide) ?_
  refine k_mmin eX4_jumpOn_3 mX4_66 (by decide) (Nat.le_of_ble_eq_true rfl) ?_
  refine k_topi (nI (min dd 7)) (mn_nI (by omega) (by omega)) ?_
  refine k_istore_n (L2 := [_, _, _, _, _]) eX4_jumpOn_6 (Nat.le_of_ble_eq_true rfl) rfl ?_
  refine k_iload_n eX4_jumpOn_7 rfl ?_
  refine k_if_gtN 13 eX4_jumpOn_8 (by decide) (by omega) (fun c_8 => ?_) (fun c_8 => ?_)
  · refine k_iconst (v := nI 0) eX4_jumpOn_13 (by decide) ?_
    refine k_istore_n (L2 := [_, _, _, _, _]) eX4_jumpOn_14 (Nat.le_of_ble_eq_true rfl) rfl ?_
    refine k_iload_n eX4_jumpOn_15 rfl ?_
    refine k_iload_n eX4_jumpOn_16 rfl ?_
    refine k_isubN eX4_jumpOn_17 (by omega) ?_
    refine k_istore (L2 := [_, _, _, _, _]) eX4_jumpOn_18 (Nat.le_of_ble_eq_true rfl) rfl ?_
    refine k_loc (L2 := [_, _, _, _, .int (nI (dd - min dd 7 + 0))]) rfl ?_
    refine lX4_jumpOn (by decide) hV hpl hdd2 (by omega) ?_ (min dd 7) 0 (by omega)
    have hpw := hpl.lt (d := dd) (by omega)
    refine k_aload_n eX4_jumpOn_54 rfl ?_
    refine GX4_45 eX4_jumpOn_55 rfl ?_
    refine GX4_117 eX4_jumpOn_58 rfl ?_
    refine k_aload_n eX4_jumpOn_61 rfl ?_
    refine GX4_49 eX4_jumpOn_62 rfl ?_
    refine k_iload_n eX4_jumpOn_65 rfl ?_
    refine cV1 (M' := MX2_at) eX4_jumpOn_66 mX4_90 wX2_at vX2_at ⟨_, _, _, rfl, rfl, rfl⟩ rfl (pX2_at (S := S) (j := dd) (by omega)) (by decide) (Nat.le_of_ble_eq_true rfl) ?_
    refine k_topi (nI (pw V dd)) (vpl hV hpl (by omega)) ?_
    refine cN1 (M' := MX11_read) eX4_jumpOn_69 mX4_79 wX11_read sX11_read rfl (pX11_readN (j := (pw V dd)) (ar17 _) (by omega) (by decide)) (by decide) (Nat.le_of_ble_eq_true rfl) ?_
    refine k_topi ((V 0 (pw V dd))) (congrFun (congrFun hV 0) _) ?_
    refine k_iload_n eX4_jumpOn_72 rfl ?_
    refine k_iload_n eX4_jumpOn_73 rfl ?_
    refine k_idiv eX4_jumpOn_74 (nI_ne0 (by omega) (by omega)) ?_
    refine k_isub eX4_jumpOn_75 ?_
    refine k_ireturn eX4_jumpOn_76 rfl rfl ?_
    exact ⟨by rw [jmp, if_neg (by omega)], rfl⟩
  refine k_iconst (v := nI 0) eX4_jumpOn_11 (by decide) ?_
  refine k_ireturn eX4_jumpOn_12 rfl rfl ?_
  exact ⟨by rw [jmp, if_pos (by omega)], rfl⟩
set_option maxHeartbeats 400000 in
theorem pX4_nameDay {S : k_S} {V : k_V} (hV : vC S = V) {dn : Nat} (hdn : S.1 1302 = nI dn) (hcd : CntOk V dn) (hpl : PlanOk V) {r dd : Nat} (hr : r < 5) (hdd2 : dd < 120) : Sp 3 0 0 MX4_nameDay [.ref 38, .int (nI r), .int (nI dd)] (hp S) (Rx none (fun S' => (∀ k, k < 7 → S'.2.1 48 k = nmV V dn r dd k) ∧ Frm [] [48] [] S S')) := by
  refine Sp_of (by decide +kernel) (Nat.le_of_ble_eq_true rfl) ?_
  show AW none MX4_nameDay 3 0 0 0 [.ref 38, .int (nI r), .int (nI dd), .null] [] (hp S) _
  have hpw := hpl.lt (d := dd) (by omega)
  refine k_aload_n eX4_nameDay_0 rfl ?_
  refine GX4_49 eX4_nameDay_1 rfl ?_
  refine k_iload_n eX4_nameDay_4 rfl ?_
  refine cV1 (M' := MX2_at) eX4_nameDay_5 mX4_90 wX2_at vX2_at ⟨_, _, _, rfl, rfl, rfl⟩ rfl (pX2_at (S := S) (j := dd) (by omega)) (by decide) (Nat.le_of_ble_eq_true rfl) ?_
  refine k_topi (nI (pw V dd)) (vpl hV hpl (by omega)) ?_
  refine k_istore_n (L2 := [_, _, _, _]) eX4_nameDay_8 (Nat.le_of_ble_eq_true rfl) rfl ?_
  refine k_aload_n eX4_nameDay_9 rfl ?_
  refine GX4_28 eX4_nameDay_10 rfl ?_
  refine k_iconst (v := nI 0) eX4_nameDay_13 (by decide) ?_
  refine k_aload_n eX4_nameDay_14 rfl ?_
  refine GX4_41 eX4_nameDay_15 rfl ?_
  refine k_iload_n eX4_nameDay_18 rfl ?_
  refine k_iload_n eX4_nameDay_19 rfl ?_
  refine k_iload_n eX4_nameDay_20 rfl ?_
  refine cV1 (M' := MX3_tiredBy) eX4_nameDay_21 mX4_95 wX3_tiredBy vX3_tiredBy ⟨_, _, _, rfl, rfl, rfl⟩ rfl (pX3_tiredBy (S := S) (V := V) (r := r) (day := dd) (n0 := (dd + 1)) hV hpl (by omega) (by omega) (by omega) (to_of (by omega))) (by decide) (Nat.le_of_ble_eq_true rfl) ?_
  refine k_sipush (v := nI 1000) eX4_nameDay_24 (by decide) ?_
  refine k_idiv eX4_nameDay_27 (by decide) ?_
  refine cN0 (M' := MX11_write) eX4_nameDay_28 mX4_75 wX11_write sX11_write rfl (pX11_writeN (j := 0) (v := ((tSum V r dd (dd + 1)) / nI 1000)) (ar48 _) (by omega) (by decide) (as48 _ _)) (by decide) (Nat.le_of_ble_eq_true rfl) ?_
  refine k_aload_n eX4_nameDay_31 rfl ?_
  refine GX4_28 eX4_nameDay_32 rfl ?_
  refine k_iconst (v := nI 1) eX4_nameDay_35 (by decide) ?_
  refine k_aload_n eX4_nameDay_36 rfl ?_
  refine GX4_41 eX4_nameDay_37 rfl ?_
  refine k_iload_n eX4_nameDay_40 rfl ?_
  refine k_iload_n eX4_nameDay_41 rfl ?_
  refine k_iload_n eX4_nameDay_42 rfl ?_
  refine cV1 (M' := MX3_strongBy) eX4_nameDay_43 mX4_101 wX3_strongBy vX3_strongBy ⟨_, _, _, rfl, rfl, rfl⟩ rfl (pX3_strongBy (S := (sa S 48 (va_up ((S).2.1 48) 0 (((tSum V r dd (dd + 1)) / nI 1000))))) (V := V) (r := r) (day := dd) (n0 := (dd + 1)) hV hpl (by omega) (by omega) (by omega) (to_of (by omega))) (by decide) (Nat.le_of_ble_eq_true rfl) ?_
  refine k_sipush (v := nI 1000) eX4_nameDay_46 (by decide) ?_
  refine k_idiv eX4_nameDay_49 (by decide) ?_
  refine cN0 (M' := MX11_write) eX4_nameDay_50 mX4_75 wX11_write sX11_write rfl (pX11_writeN (j := 1) (v := ((sSum V r dd (dd + 1)) / nI 1000)) (ar48 _) (by omega) (by decide) (as48 _ _)) (by decide) (Nat.le_of_ble_eq_true rfl) ?_
  refine k_aload_n eX4_nameDay_53 rfl ?_
  refine GX4_28 eX4_nameDay_54 rfl ?_
  refine k_iconst (v := nI 2) eX4_nameDay_57 (by decide) ?_
  refine k_iload_n eX4_nameDay_58 rfl ?_
  refine cN0 (M' := MX11_write) eX4_nameDay_59 mX4_75 wX11_write sX11_write rfl (pX11_writeN (j := 2) (v := nI (pw V dd)) (ar48 _) (by omega) (by decide) (as48 _ _)) (by decide) (Nat.le_of_ble_eq_true rfl) ?_
  refine k_aload_n eX4_nameDay_62 rfl ?_
  refine GX4_28 eX4_nameDay_63 rfl ?_
  refine k_iconst (v := nI 3) eX4_nameDay_66 (by decide) ?_
  refine k_aload_n eX4_nameDay_67 rfl ?_
  refine k_iload_n eX4_nameDay_68 rfl ?_
  refine cV1 (M' := MX4_jumpOn) eX4_nameDay_69 mX4_104 wX4_jumpOn vX4_jumpOn ⟨_, _, _, rfl, rfl, rfl⟩ rfl (pX4_jumpOn (S := (sa (sa (sa S 48 (va_up ((S).2.1 48) 0 (((tSum V r dd (dd + 1)) / nI 1000)))) 48 (va_up (((sa S 48 (va_up ((S).2.1 48) 0 (((tSum V r dd (dd + 1)) / nI 1000))))).2.1 48) 1 (((sSum V r dd (dd + 1)) / nI 1000)))) 48 (va_up (((sa (sa S 48 (va_up ((S).2.1 48) 0 (((tSum V r dd (dd + 1)) / nI 1000)))) 48 (va_up (((sa S 48 (va_up ((S).2.1 48) 0 (((tSum V r dd (dd + 1)) / nI 1000))))).2.1 48) 1 (((sSum V r dd (dd + 1)) / nI 1000))))).2.1 48) 2 (nI (pw V dd))))) (V := V) (dd := dd) hV hpl (by omega)) (by decide) (Nat.le_of_ble_eq_true rfl) ?_
  refine cN0 (M' := MX11_write) eX4_nameDay_72 mX4_75 wX11_write sX11_write rfl (pX11_writeN (j := 3) (v := (jmp V dd)) (ar48 _) (by omega) (by decide) (as48 _ _)) (by decide) (Nat.le_of_ble_eq_true rfl) ?_
  refine k_aload_n eX4_nameDay_75 rfl ?_
  refine GX4_28 eX4_nameDay_76 rfl ?_
  refine k_iconst (v := nI 4) eX4_nameDay_79 (by decide) ?_
  refine k_iload_n eX4_nameDay_80 rfl ?_
  refine cN0 (M' := MX11_write) eX4_nameDay_81 mX4_75 wX11_write sX11_write rfl (pX11_writeN (j := 4) (v := nI dd) (ar48 _) (by omega) (by decide) (as48 _ _)) (by decide) (Nat.le_of_ble_eq_true rfl) ?_
  refine k_aload_n eX4_nameDay_84 rfl ?_
  refine GX4_28 eX4_nameDay_85 rfl ?_
  refine k_iconst (v := nI 5) eX4_nameDay_88 (by decide) ?_
  refine k_aload_n eX4_nameDay_89 rfl ?_
  refine GX4_45 eX4_nameDay_90 rfl ?_
  refine GX4_107 eX4_nameDay_93 rfl ?_
  refine k_iload_n eX4_nameDay_96 rfl ?_
  refine cN1 (M' := MX11_read) eX4_nameDay_97 mX4_79 wX11_read sX11_read rfl (pX11_readN (j := (pw V dd)) (ar19 _) (by omega) (by decide)) (by decide) (Nat.le_of_ble_eq_true rfl) ?_
  refine k_topi ((V 2 (pw V dd))) (congrFun (congrFun hV 2) _) ?_
  refine cN0 (M' := MX11_write) eX4_nameDay_100 mX4_75 wX11_write sX11_write rfl (pX11_writeN (j := 5) (v := (V 2 (pw V dd))) (ar48 _) (by omega) (by decide) (as48 _ _)) (by decide) (Nat.le_of_ble_eq_true rfl) ?_
  refine k_aload_n eX4_nameDay_103 rfl ?_
  refine GX4_28 eX4_nameDay_104 rfl ?_
  refine k_bipush (v := nI 6) eX4_nameDay_107 (by decide) ?_
  refine k_aload_n eX4_nameDay_109 rfl ?_
  refine GX4_53 eX4_nameDay_110 rfl ?_
  refine k_iload_n eX4_nameDay_113 rfl ?_
  refine cV1 (M' := MX5_daysToNext) eX4_nameDay_114 mX4_112 wX5_daysToNext vX5_daysToNext ⟨_, _, _, rfl, rfl, rfl⟩ rfl (pX5_daysToNext (S := (sa (sa (sa (sa (sa (sa S 48 (va_up ((S).2.1 48) 0 (((tSum V r dd (dd + 1)) / nI 1000)))) 48 (va_up (((sa S 48 (va_up ((S).2.1 48) 0 (((tSum V r dd (dd + 1)) / nI 1000))))).2.1 48) 1 (((sSum V r dd (dd + 1)) / nI 1000)))) 48 (va_up (((sa (sa S 48 (va_up ((S).2.1 48) 0 (((tSum V r dd (dd + 1)) / nI 1000)))) 48 (va_up (((sa S 48 (va_up ((S).2.1 48) 0 (((tSum V r dd (dd + 1)) / nI 1000))))).2.1 48) 1 (((sSum V r dd (dd + 1)) / nI 1000))))).2.1 48) 2 (nI (pw V dd)))) 48 (va_up (((sa (sa (sa S 48 (va_up ((S).2.1 48) 0 (((tSum V r dd (dd + 1)) / nI 1000)))) 48 (va_up (((sa S 48 (va_up ((S).2.1 48) 0 (((tSum V r dd (dd + 1)) / nI 1000))))).2.1 48) 1 (((sSum V r dd (dd + 1)) / nI 1000)))) 48 (va_up (((sa (sa S 48 (va_up ((S).2.1 48) 0 (((tSum V r dd (dd + 1)) / nI 1000)))) 48 (va_up (((sa S 48 (va_up ((S).2.1 48) 0 (((tSum V r dd (dd + 1)) / nI 1000))))).2.1 48) 1 (((sSum V r dd (dd + 1)) / nI 1000))))).2.1 48) 2 (nI (pw V dd))))).2.1 48) 3 ((jmp V dd)))) 48 (va_up (((sa (sa (sa (sa S 48 (va_up ((S).2.1 48) 0 (((tSum V r dd (dd + 1)) / nI 1000)))) 48 (va_up (((sa S 48 (va_up ((S).2.1 48) 0 (((tSum V r dd (dd + 1)) / nI 1000))))).2.1 48) 1 (((sSum V r dd (dd + 1)) / nI 1000)))) 48 (va_up (((sa (sa S 48 (va_up ((S).2.1 48) 0 (((tSum V r dd (dd + 1)) / nI 1000)))) 48 (va_up (((sa S 48 (va_up ((S).2.1 48) 0 (((tSum V r dd (dd + 1)) / nI 1000))))).2.1 48) 1 (((sSum V r dd (dd + 1)) / nI 1000))))).2.1 48) 2 (nI (pw V dd)))) 48 (va_up (((sa (sa (sa S 48 (va_up ((S).2.1 48) 0 (((tSum V r dd (dd + 1)) / nI 1000)))) 48 (va_up (((sa S 48 (va_up ((S).2.1 48) 0 (((tSum V r dd (dd + 1)) / nI 1000))))).2.1 48) 1 (((sSum V r dd (dd + 1)) / nI 1000)))) 48 (va_up (((sa (sa S 48 (va_up ((S).2.1 48) 0 (((tSum V r dd (dd + 1)) / nI 1000)))) 48 (va_up (((sa S 48 (va_up ((S).2.1 48) 0 (((tSum V r dd (dd + 1)) / nI 1000))))).2.1 48) 1 (((sSum V r dd (dd + 1)) / nI 1000))))).2.1 48) 2 (nI (pw V dd))))).2.1 48) 3 ((jmp V dd))))).2.1 48) 4 (nI dd))) 48 (va_up (((sa (sa (sa (sa (sa S 48 (va_up ((S).2.1 48) 0 (((tSum V r dd (dd + 1)) / nI 1000)))) 48 (va_up (((sa S 48 (va_up ((S).2.1 48) 0 (((tSum V r dd (dd + 1)) / nI 1000))))).2.1 48) 1 (((sSum V r dd (dd + 1)) / nI 1000)))) 48 (va_up (((sa (sa S 48 (va_up ((S).2.1 48) 0 (((tSum V r dd (dd + 1)) / nI 1000)))) 48 (va_up (((sa S 48 (va_up ((S).2.1 48) 0 (((tSum V r dd (dd + 1)) / nI 1000))))).2.1 48) 1 (((sSum V r dd (dd + 1)) / nI 1000))))).2.1 48) 2 (nI (pw V dd)))) 48 (va_up (((sa (sa (sa S 48 (va_up ((S).2.1 48) 0 (((tSum V r dd (dd + 1)) / nI 1000)))) 48 (va_up (((sa S 48 (va_up ((S).2.1 48) 0 (((tSum V r dd (dd + 1)) / nI 1000))))).2.1 48) 1 (((sSum V r dd (dd + 1)) / nI 1000)))) 48 (va_up (((sa (sa S 48 (va_up ((S).2.1 48) 0 (((tSum V r dd (dd + 1)) / nI 1000)))) 48 (va_up (((sa S 48 (va_up ((S).2.1 48) 0 (((tSum V r dd (dd + 1)) / nI 1000))))).2.1 48) 1 (((sSum V r dd (dd + 1)) / nI 1000))))).2.1 48) 2 (nI (pw V dd))))).2.1 48) 3 ((jmp V dd)))) 48 (va_up (((sa (sa (sa (sa S 48 (va_up ((S).2.1 48) 0 (((tSum V r dd (dd + 1)) / nI 1000)))) 48 (va_up (((sa S 48 (va_up ((S).2.1 48) 0 (((tSum V r dd (dd + 1)) / nI 1000))))).2.1 48) 1 (((sSum V r dd (dd + 1)) / nI 1000)))) 48 (va_up (((sa (sa S 48 (va_up ((S).2.1 48) 0 (((tSum V r dd (dd + 1)) / nI 1000)))) 48 (va_up (((sa S 48 (va_up ((S).2.1 48) 0 (((tSum V r dd (dd + 1)) / nI 1000))))).2.1 48) 1 (((sSum V r dd (dd + 1)) / nI 1000))))).2.1 48) 2 (nI (pw V dd)))) 48 (va_up (((sa (sa (sa S 48 (va_up ((S).2.1 48) 0 (((tSum V r dd (dd + 1)) / nI 1000)))) 48 (va_up (((sa S 48 (va_up ((S).2.1 48) 0 (((tSum V r dd (dd + 1)) / nI 1000))))).2.1 48) 1 (((sSum V r dd (dd + 1)) / nI 1000)))) 48 (va_up (((sa (sa S 48 (va_up ((S).2.1 48) 0 (((tSum V r dd (dd + 1)) / nI 1000)))) 48 (va_up (((sa S 48 (va_up ((S).2.1 48) 0 (((tSum V r dd (dd + 1)) / nI 1000))))).2.1 48) 1 (((sSum V r dd (dd + 1)) / nI 1000))))).2.1 48) 2 (nI (pw V dd))))).2.1 48) 3 ((jmp V dd))))).2.1 48) 4 (nI dd)))).2.1 48) 5 ((V 2 (pw V dd)))))) (V := V) (dn := dn) (dd := dd) hV hdn hcd (by omega)) (by decide) (Nat.le_of_ble_eq_true rfl) ?_
  refine cN0 (M' := MX11_write) eX4_nameDay_117 mX4_75 wX11_write sX11_write rfl (pX11_writeN (j := 6) (v := (gNx V dn dd)) (ar48 _) (by omega) (by decide) (as48 _ _)) (by decide) (Nat.le_of_ble_eq_true rfl) ?_
  refine k_return eX4_nameDay_120 rfl ?_
  exact ⟨rfl, _, rfl, all7 rfl rfl rfl rfl rfl rfl rfl, ((((((((Frm.rf S).sa (by decide) _).sa (by decide) _).sa (by decide) _).sa (by decide) _).sa (by decide) _).sa (by decide) _).sa (by decide) _)⟩
theorem pW_of {n j : Nat} (h : j < n) (hn : n < 2 ^ 31) : pW (nI n) (nI j) := ⟨by rw [Int32.le_iff_toInt_le, nI_toInt (by omega), nI_toInt (by omega)]; omega, (nI_ltI (by omega) hn).mpr h⟩
theorem to_ofd {d : Nat} (hd : d < 120) : ∀ j, j ≤ 120 → (nI d - nI 1 < nI j ↔ d ≤ j) := by
  rcases Nat.eq_zero_or_pos d with h | h
  · subst h; exact to_of0
  · exact to_of' h hd
theorem rd_ah {V : k_V} {S : k_S} (hV : vC S = V) (hpl : PlanOk V) {d : Nat} (hd : d < 120) : rd 120 (S.2.1 25) (nI d - nI 1) = ahW V d := by
  rcases Nat.eq_zero_or_pos d with h | h
  · subst h
    rw [ahW, if_pos rfl, rd, if_neg (by unfold pW; decide)]
  · rw [ahW, if_neg (by omega), pk_sub h, rd, if_pos (pW_of (by omega) (by omega)), ix_nI (by omega), vpl hV hpl (by omega)]
set_option maxHeartbeats 400000 in
theorem pX4_nameDayAhead {S : k_S} {V : k_V} (hV : vC S = V) {dn : Nat} (hdn : S.1 1302 = nI dn) (hcd : CntOk V dn) (hpl : PlanOk V) {r dd : Nat} (hr : r < 5) (hdd2 : dd < 120) : Sp 3 0 0 MX4_nameDayAhead [.ref 38, .int (nI r), .int (nI dd)] (hp S) (Rx none (fun S' => (∀ k, k < 7 → S'.2.1 48 k = nmA V dn r dd k) ∧ Frm [] [48] [] S S')) := by
  refine Sp_of (by decide +kernel) (Nat.le_of_ble_eq_true rfl) ?_
  show AW none MX4_nameDayAhead 3 0 0 0 [.ref 38, .int (nI r), .int (nI dd)] [] (hp S) _
  refine k_aload_n eX4_nameDayAhead_0 rfl ?_
  refine GX4_28 eX4_nameDayAhead_1 rfl ?_
  refine k_iconst (v := nI 0) eX4_nameDayAhead_4 (by decide) ?_
  refine k_aload_n eX4_nameDayAhead_5 rfl ?_
  refine GX4_41 eX4_nameDayAhead_6 rfl ?_
  refine k_iload_n eX4_nameDayAhead_9 rfl ?_
  refine k_iload_n eX4_nameDayAhead_10 rfl ?_
  refine k_iconst (v := nI 1) eX4_nameDayAhead_11 (by decide) ?_
  refine k_isub eX4_nameDayAhead_12 ?_
  refine k_iload_n eX4_nameDayAhead_13 rfl ?_
  refine cV1 (M' := MX3_tiredBy) eX4_nameDayAhead_14 mX4_95 wX3_tiredBy vX3_tiredBy ⟨_, _, _, rfl, rfl, rfl⟩ rfl (pX3_tiredBy (S := S) (V := V) (r := r) (day := dd) (n0 := dd) hV hpl (by omega) (by omega) (by omega) (to_ofd (by omega))) (by decide) (Nat.le_of_ble_eq_true rfl) ?_
  refine k_sipush (v := nI 1000) eX4_nameDayAhead_17 (by decide) ?_
  refine k_idiv eX4_nameDayAhead_20 (by decide) ?_
  refine cN0 (M' := MX11_write) eX4_nameDayAhead_21 mX4_75 wX11_write sX11_write rfl (pX11_writeN (j := 0) (v := ((tSum V r dd dd) / nI 1000)) (ar48 _) (by omega) (by decide) (as48 _ _)) (by decide) (Nat.le_of_ble_eq_true rfl) ?_
  refine k_aload_n eX4_nameDayAhead_24 rfl ?_
  refine GX4_28 eX4_nameDayAhead_25 rfl ?_
  refine k_iconst (v := nI 1) eX4_nameDayAhead_28 (by decide) ?_
  refine k_aload_n eX4_nameDayAhead_29 rfl ?_
  refine GX4_41 eX4_nameDayAhead_30 rfl ?_
  refine k_iload_n eX4_nameDayAhead_33 rfl ?_
  refine k_iload_n eX4_nameDayAhead_34 rfl ?_
  refine k_iconst (v := nI 1) eX4_nameDayAhead_35 (by decide) ?_
  refine k_isub eX4_nameDayAhead_36 ?_
  refine k_iload_n eX4_nameDayAhead_37 rfl ?_
  refine cV1 (M' := MX3_strongBy) eX4_nameDayAhead_38 mX4_101 wX3_strongBy vX3_strongBy ⟨_, _, _, rfl, rfl, rfl⟩ rfl (pX3_strongBy (S := (sa S 48 (va_up ((S).2.1 48) 0 (((tSum V r dd dd) / nI 1000))))) (V := V) (r := r) (day := dd) (n0 := dd) hV hpl (by omega) (by omega) (by omega) (to_ofd (by omega))) (by decide) (Nat.le_of_ble_eq_true rfl) ?_
  refine k_sipush (v := nI 1000) eX4_nameDayAhead_41 (by decide) ?_
  refine k_idiv eX4_nameDayAhead_44 (by decide) ?_
  refine cN0 (M' := MX11_write) eX4_nameDayAhead_45 mX4_75 wX11_write sX11_write rfl (pX11_writeN (j := 1) (v := ((sSum V r dd dd) / nI 1000)) (ar48 _) (by omega) (by decide) (as48 _ _)) (by decide) (Nat.le_of_ble_eq_true rfl) ?_
  refine k_aload_n eX4_nameDayAhead_48 rfl ?_
  refine GX4_28 eX4_nameDayAhead_49 rfl ?_
  refine k_iconst (v := nI 2) eX4_nameDayAhead_52 (by decide) ?_
  refine k_aload_n eX4_nameDayAhead_53 rfl ?_
  refine GX4_49 eX4_nameDayAhead_54 rfl ?_
  refine k_iload_n eX4_nameDayAhead_57 rfl ?_
  refine k_iconst (v := nI 1) eX4_nameDayAhead_58 (by decide) ?_
  refine k_isub eX4_nameDayAhead_59 ?_
  refine cV1 (M' := MX2_at) eX4_nameDayAhead_60 mX4_90 wX2_at vX2_at ⟨_, _, _, rfl, rfl, rfl⟩ rfl (pX2_atI (S := (sa (sa S 48 (va_up ((S).2.1 48) 0 (((tSum V r dd dd) / nI 1000)))) 48 (va_up (((sa S 48 (va_up ((S).2.1 48) 0 (((tSum V r dd dd) / nI 1000))))).2.1 48) 1 (((sSum V r dd dd) / nI 1000))))) ((nI dd - nI 1))) (by decide) (Nat.le_of_ble_eq_true rfl) ?_
  refine k_topi ((ahW V dd)) (rd_ah (S := (sa (sa S 48 (va_up ((S).2.1 48) 0 (((tSum V r dd dd) / nI 1000)))) 48 (va_up (((sa S 48 (va_up ((S).2.1 48) 0 (((tSum V r dd dd) / nI 1000))))).2.1 48) 1 (((sSum V r dd dd) / nI 1000))))) hV hpl (by omega)) ?_
  refine cN0 (M' := MX11_write) eX4_nameDayAhead_63 mX4_75 wX11_write sX11_write rfl (pX11_writeN (j := 2) (v := (ahW V dd)) (ar48 _) (by omega) (by decide) (as48 _ _)) (by decide) (Nat.le_of_ble_eq_true rfl) ?_
  refine k_aload_n eX4_nameDayAhead_66 rfl ?_
  refine GX4_28 eX4_nameDayAhead_67 rfl ?_
  refine k_iconst (v := nI 3) eX4_nameDayAhead_70 (by decide) ?_
  refine k_iconst (v := nI 0) eX4_nameDayAhead_71 (by decide) ?_
  refine cN0 (M' := MX11_write) eX4_nameDayAhead_72 mX4_75 wX11_write sX11_write rfl (pX11_writeN (j := 3) (v := nI 0) (ar48 _) (by omega) (by decide) (as48 _ _)) (by decide) (Nat.le_of_ble_eq_true rfl) ?_
  refine k_aload_n eX4_nameDayAhead_75 rfl ?_
  refine GX4_28 eX4_nameDayAhead_76 rfl ?_
  refine k_iconst (v := nI 4) eX4_nameDayAhead_79 (by decide) ?_
  refine k_iload_n eX4_nameDayAhead_80 rfl ?_
  refine cN0 (M' := MX11_write) eX4_nameDayAhead_81 mX4_75 wX11_write sX11_write rfl (pX11_writeN (j := 4) (v := nI dd) (ar48 _) (by omega) (by decide) (as48 _ _)) (by decide) (Nat.le_of_ble_eq_true rfl) ?_
  refine k_aload_n eX4_nameDayAhead_84 rfl ?_
  refine GX4_28 eX4_nameDayAhead_85 rfl ?_
  refine k_iconst (v := nI 5) eX4_nameDayAhead_88 (by decide) ?_
  refine k_iconst (v := nI 0) eX4_nameDayAhead_89 (by decide) ?_
  refine cN0 (M' := MX11_write) eX4_nameDayAhead_90 mX4_75 wX11_write sX11_write rfl (pX11_writeN (j := 5) (v := nI 0) (ar48 _) (by omega) (by decide) (as48 _ _)) (by decide) (Nat.le_of_ble_eq_true rfl) ?_
  refine k_aload_n eX4_nameDayAhead_93 rfl ?_
  refine GX4_28 eX4_nameDayAhead_94 rfl ?_
  refine k_bipush (v := nI 6) eX4_nameDayAhead_97 (by decide) ?_
  refine k_aload_n eX4_nameDayAhead_99 rfl ?_
  refine GX4_53 eX4_nameDayAhead_100 rfl ?_
  refine k_iload_n eX4_nameDayAhead_103 rfl ?_
  refine cV1 (M' := MX5_daysToNext) eX4_nameDayAhead_104 mX4_112 wX5_daysToNext vX5_daysToNext ⟨_, _, _, rfl, rfl, rfl⟩ rfl (pX5_daysToNext (S := (sa (sa (sa (sa (sa (sa S 48 (va_up ((S).2.1 48) 0 (((tSum V r dd dd) / nI 1000)))) 48 (va_up (((sa S 48 (va_up ((S).2.1 48) 0 (((tSum V r dd dd) / nI 1000))))).2.1 48) 1 (((sSum V r dd dd) / nI 1000)))) 48 (va_up (((sa (sa S 48 (va_up ((S).2.1 48) 0 (((tSum V r dd dd) / nI 1000)))) 48 (va_up (((sa S 48 (va_up ((S).2.1 48) 0 (((tSum V r dd dd) / nI 1000))))).2.1 48) 1 (((sSum V r dd dd) / nI 1000))))).2.1 48) 2 ((ahW V dd)))) 48 (va_up (((sa (sa (sa S 48 (va_up ((S).2.1 48) 0 (((tSum V r dd dd) / nI 1000)))) 48 (va_up (((sa S 48 (va_up ((S).2.1 48) 0 (((tSum V r dd dd) / nI 1000))))).2.1 48) 1 (((sSum V r dd dd) / nI 1000)))) 48 (va_up (((sa (sa S 48 (va_up ((S).2.1 48) 0 (((tSum V r dd dd) / nI 1000)))) 48 (va_up (((sa S 48 (va_up ((S).2.1 48) 0 (((tSum V r dd dd) / nI 1000))))).2.1 48) 1 (((sSum V r dd dd) / nI 1000))))).2.1 48) 2 ((ahW V dd))))).2.1 48) 3 (nI 0))) 48 (va_up (((sa (sa (sa (sa S 48 (va_up ((S).2.1 48) 0 (((tSum V r dd dd) / nI 1000)))) 48 (va_up (((sa S 48 (va_up ((S).2.1 48) 0 (((tSum V r dd dd) / nI 1000))))).2.1 48) 1 (((sSum V r dd dd) / nI 1000)))) 48 (va_up (((sa (sa S 48 (va_up ((S).2.1 48) 0 (((tSum V r dd dd) / nI 1000)))) 48 (va_up (((sa S 48 (va_up ((S).2.1 48) 0 (((tSum V r dd dd) / nI 1000))))).2.1 48) 1 (((sSum V r dd dd) / nI 1000))))).2.1 48) 2 ((ahW V dd)))) 48 (va_up (((sa (sa (sa S 48 (va_up ((S).2.1 48) 0 (((tSum V r dd dd) / nI 1000)))) 48 (va_up (((sa S 48 (va_up ((S).2.1 48) 0 (((tSum V r dd dd) / nI 1000))))).2.1 48) 1 (((sSum V r dd dd) / nI 1000)))) 48 (va_up (((sa (sa S 48 (va_up ((S).2.1 48) 0 (((tSum V r dd dd) / nI 1000)))) 48 (va_up (((sa S 48 (va_up ((S).2.1 48) 0 (((tSum V r dd dd) / nI 1000))))).2.1 48) 1 (((sSum V r dd dd) / nI 1000))))).2.1 48) 2 ((ahW V dd))))).2.1 48) 3 (nI 0)))).2.1 48) 4 (nI dd))) 48 (va_up (((sa (sa (sa (sa (sa S 48 (va_up ((S).2.1 48) 0 (((tSum V r dd dd) / nI 1000)))) 48 (va_up (((sa S 48 (va_up ((S).2.1 48) 0 (((tSum V r dd dd) / nI 1000))))).2.1 48) 1 (((sSum V r dd dd) / nI 1000)))) 48 (va_up (((sa (sa S 48 (va_up ((S).2.1 48) 0 (((tSum V r dd dd) / nI 1000)))) 48 (va_up (((sa S 48 (va_up ((S).2.1 48) 0 (((tSum V r dd dd) / nI 1000))))).2.1 48) 1 (((sSum V r dd dd) / nI 1000))))).2.1 48) 2 ((ahW V dd)))) 48 (va_up (((sa (sa (sa S 48 (va_up ((S).2.1 48) 0 (((tSum V r dd dd) / nI 1000)))) 48 (va_up (((sa S 48 (va_up ((S).2.1 48) 0 (((tSum V r dd dd) / nI 1000))))).2.1 48) 1 (((sSum V r dd dd) / nI 1000)))) 48 (va_up (((sa (sa S 48 (va_up ((S).2.1 48) 0 (((tSum V r dd dd) / nI 1000)))) 48 (va_up (((sa S 48 (va_up ((S).2.1 48) 0 (((tSum V r dd dd) / nI 1000))))).2.1 48) 1 (((sSum V r dd dd) / nI 1000))))).2.1 48) 2 ((ahW V dd))))).2.1 48) 3 (nI 0))) 48 (va_up (((sa (sa (sa (sa S 48 (va_up ((S).2.1 48) 0 (((tSum V r dd dd) / nI 1000)))) 48 (va_up (((sa S 48 (va_up ((S).2.1 48) 0 (((tSum V r dd dd) / nI 1000))))).2.1 48) 1 (((sSum V r dd dd) / nI 1000)))) 48 (va_up (((sa (sa S 48 (va_up ((S).2.1 48) 0 (((tSum V r dd dd) / nI 1000)))) 48 (va_up (((sa S 48 (va_up ((S).2.1 48) 0 (((tSum V r dd dd) / nI 1000))))).2.1 48) 1 (((sSum V r dd dd) / nI 1000))))).2.1 48) 2 ((ahW V dd)))) 48 (va_up (((sa (sa (sa S 48 (va_up ((S).2.1 48) 0 (((tSum V r dd dd) / nI 1000)))) 48 (va_up (((sa S 48 (va_up ((S).2.1 48) 0 (((tSum V r dd dd) / nI 1000))))).2.1 48) 1 (((sSum V r dd dd) / nI 1000)))) 48 (va_up (((sa (sa S 48 (va_up ((S).2.1 48) 0 (((tSum V r dd dd) / nI 1000)))) 48 (va_up (((sa S 48 (va_up ((S).2.1 48) 0 (((tSum V r dd dd) / nI 1000))))).2.1 48) 1 (((sSum V r dd dd) / nI 1000))))).2.1 48) 2 ((ahW V dd))))).2.1 48) 3 (nI 0)))).2.1 48) 4 (nI dd)))).2.1 48) 5 (nI 0)))) (V := V) (dn := dn) (dd := dd) hV hdn hcd (by omega)) (by decide) (Nat.le_of_ble_eq_true rfl) ?_
  refine cN0 (M' := MX11_write) eX4_nameDayAhead_107 mX4_75 wX11_write sX11_write rfl (pX11_writeN (j := 6) (v := (gNx V dn dd)) (ar48 _) (by omega) (by decide) (as48 _ _)) (by decide) (Nat.le_of_ble_eq_true rfl) ?_
  refine k_return eX4_nameDayAhead_110 rfl ?_
  exact ⟨rfl, _, rfl, all7 rfl rfl rfl rfl rfl rfl rfl, ((((((((Frm.rf S).sa (by decide) _).sa (by decide) _).sa (by decide) _).sa (by decide) _).sa (by decide) _).sa (by decide) _).sa (by decide) _)⟩
set_option maxHeartbeats 400000 in
theorem pX4_riskOn {S : k_S} {j : Nat} (hj : j < 120) : Sp 1 0 0 MX4_riskOn [.ref 38, .int (nI j)] (hp S) (Rt (some (.int (S.2.1 49 j))) (hp S)) := by
  refine Sp_of (by decide +kernel) (Nat.le_of_ble_eq_true rfl) ?_
  show AW none MX4_riskOn 1 0 0 0 [.ref 38, .int (nI j)] [] (hp S) _
  refine k_aload_n eX4_riskOn_0 rfl ?_
  refine GX4_32 eX4_riskOn_1 rfl ?_
  refine k_iload_n eX4_riskOn_4 rfl ?_
  refine cN1 (M' := MX11_read) eX4_riskOn_5 mX4_79 wX11_read sX11_read rfl (pX11_readN (j := j) (ar49 _) (by omega) (by decide)) (by decide) (Nat.le_of_ble_eq_true rfl) ?_
  refine k_ireturn eX4_riskOn_8 rfl rfl ?_
  exact ⟨rfl, rfl⟩
set_option maxHeartbeats 400000 in
theorem pX4_wholeAhead {S : k_S} {j : Nat} (hj : j < 121) : Sp 1 0 0 MX4_wholeAhead [.ref 38, .int (nI j)] (hp S) (Rt (some (.int (S.2.1 50 j))) (hp S)) := by
  refine Sp_of (by decide +kernel) (Nat.le_of_ble_eq_true rfl) ?_
  show AW none MX4_wholeAhead 1 0 0 0 [.ref 38, .int (nI j)] [] (hp S) _
  refine k_aload_n eX4_wholeAhead_0 rfl ?_
  refine GX4_35 eX4_wholeAhead_1 rfl ?_
  refine k_iload_n eX4_wholeAhead_4 rfl ?_
  refine cN1 (M' := MX11_read) eX4_wholeAhead_5 mX4_79 wX11_read sX11_read rfl (pX11_readN (j := j) (ar50 _) (by omega) (by decide)) (by decide) (Nat.le_of_ble_eq_true rfl) ?_
  refine k_ireturn eX4_wholeAhead_8 rfl rfl ?_
  exact ⟨rfl, rfl⟩
set_option maxHeartbeats 400000 in
theorem pX4_firstOn {S : k_S} {j wj rj : Nat} (hj : j < 120) (h50 : S.2.1 50 j = nI wj) (h49 : S.2.1 49 j = nI rj) (hw : wj ≤ 1000000) (hr : rj ≤ 1000) : Sp 2 0 0 MX4_firstOn [.ref 38, .int (nI j)] (hp S) (Rt (some (.int (nI (wj * rj / 1000)))) (hp S)) := by
  refine Sp_of (by decide +kernel) (Nat.le_of_ble_eq_true rfl) ?_
  show AW none MX4_firstOn 2 0 0 0 [.ref 38, .int (nI j)] [] (hp S) _
  have hm : wj * rj ≤ 1000000 * 1000 := Nat.mul_le_mul hw hr
  refine k_aload_n eX4_firstOn_0 rfl ?_
  refine k_iload_n eX4_firstOn_1 rfl ?_
  refine cV1 (M' := MX4_wholeAhead) eX4_firstOn_2 mX4_83 wX4_wholeAhead vX4_wholeAhead ⟨_, _, _, rfl, rfl, rfl⟩ rfl (pX4_wholeAhead (S := S) (j := j) (by omega)) (by decide) (Nat.le_of_ble_eq_true rfl) ?_
  refine k_topi (nI wj) h50 ?_
  refine k_aload_n eX4_firstOn_5 rfl ?_
  refine k_iload_n eX4_firstOn_6 rfl ?_
  refine cV1 (M' := MX4_riskOn) eX4_firstOn_7 mX4_87 wX4_riskOn vX4_riskOn ⟨_, _, _, rfl, rfl, rfl⟩ rfl (pX4_riskOn (S := S) (j := j) (by omega)) (by decide) (Nat.le_of_ble_eq_true rfl) ?_
  refine k_topi (nI rj) h49 ?_
  refine k_imulN eX4_firstOn_10 ?_
  refine k_sipush (v := nI 1000) eX4_firstOn_11 (by decide) ?_
  refine k_idivN eX4_firstOn_14 (by omega) (by omega) (by omega) ?_
  refine k_ireturn eX4_firstOn_15 rfl rfl ?_
  exact ⟨rfl, rfl⟩
set_option maxHeartbeats 400000 in
theorem lX4_lostBehindA {d : Nat} {Po : Option Value → k_H → Prop} (hdd : 1 ≤ d) {S : k_S} {lo dd : Nat} (hlo : S.1 1907 = nI lo) (hlo2 : lo ≤ 60) (hdd2 : dd < 120) {f : Nat → Int32} (hf : ∀ i, i < 120 → S.2.1 51 i = f i) (hc : lo ≤ 119 - dd) (kx : AW none MX4_lostBehind d 0 0 39 [.ref 38, .int (nI dd), .int (sumN (fun j => f (dd + 1 + j)) lo), .int (nI (dd + 1 + lo))] [] (hp S) Po) : ∀ (n j : Nat), j + n = lo → AW none MX4_lostBehind d 0 0 6 [.ref 38, .int (nI dd), .int (sumN (fun j => f (dd + 1 + j)) j), .int (nI (dd + 1 + j))] [] (hp S) Po := by
  intro n
  induction n with
  | zero =>
    intro j hj
    rw [show j = lo by omega]
    refine k_iload_n eX4_lostBehind_6 rfl ?_
    refine k_iload_n eX4_lostBehind_7 rfl ?_
    refine k_aload_n eX4_lostBehind_8 rfl ?_
    refine GX4_24 eX4_lostBehind_9 rfl ?_
    refine k_topi (nI lo) hlo ?_
    refine k_iaddN eX4_lostBehind_12 ?_
    refine k_icmp_gtN 39 eX4_lostBehind_13 (by decide) (by omega) (by omega) (fun c_13 => ?_) (fun c_13 => by exfalso; omega)
    exact kx
  | succ n ih =>
    intro j hj
    refine k_iload_n eX4_lostBehind_6 rfl ?_
    refine k_iload_n eX4_lostBehind_7 rfl ?_
    refine k_aload_n eX4_lostBehind_8 rfl ?_
    refine GX4_24 eX4_lostBehind_9 rfl ?_
    refine k_topi (nI lo) hlo ?_
    refine k_iaddN eX4_lostBehind_12 ?_
    refine k_icmp_gtN 39 eX4_lostBehind_13 (by decide) (by omega) (by omega) (fun c_13 => by exfalso; omega) (fun c_13 => ?_)
    refine k_iload_n eX4_lostBehind_16 rfl ?_
    refine k_bipush (v := nI 120) eX4_lostBehind_17 (by decide) ?_
    refine k_icmp_geN 39 eX4_lostBehind_19 (by decide) (by omega) (by omega) (fun c_19 => by exfalso; omega) (fun c_19 => ?_)
    refine k_iload_n eX4_lostBehind_22 rfl ?_
    refine k_aload_n eX4_lostBehind_23 rfl ?_
    refine GX4_38 eX4_lostBehind_24 rfl ?_
    refine k_iload_n eX4_lostBehind_27 rfl ?_
    refine cN1 (M' := MX11_read) eX4_lostBehind_28 mX4_79 wX11_read sX11_read rfl (pX11_readN (j := (dd + 1 + j)) (ar51 _) (by omega) (by decide)) (by omega) (Nat.le_of_ble_eq_true rfl) ?_
    refine k_topi ((f (dd + 1 + j))) (hf _ (by omega)) ?_
    refine k_iadd eX4_lostBehind_31 ?_
    refine k_istore_n (L2 := [_, _, _, _]) eX4_lostBehind_32 (Nat.le_of_ble_eq_true rfl) rfl ?_
    refine k_iincN (g := 1) (a := (dd + 1 + j)) (L2 := [_, _, _, _]) eX4_lostBehind_33 (Nat.le_of_ble_eq_true rfl) rfl rfl ?_
    refine k_goto 6 eX4_lostBehind_36 (by decide) ?_
    exact ih (j + 1) (by omega)
set_option maxHeartbeats 400000 in
theorem lX4_lostBehindB {d : Nat} {Po : Option Value → k_H → Prop} (hdd : 1 ≤ d) {S : k_S} {lo dd : Nat} (hlo : S.1 1907 = nI lo) (hlo2 : lo ≤ 60) (hdd2 : dd < 120) {f : Nat → Int32} (hf : ∀ i, i < 120 → S.2.1 51 i = f i) (hc : ¬ lo ≤ 119 - dd) (kx : AW none MX4_lostBehind d 0 0 39 [.ref 38, .int (nI dd), .int (sumN (fun j => f (dd + 1 + j)) ((119 - dd))), .int (nI (dd + 1 + ((119 - dd))))] [] (hp S) Po) : ∀ (n j : Nat), j + n = (119 - dd) → AW none MX4_lostBehind d 0 0 6 [.ref 38, .int (nI dd), .int (sumN (fun j => f (dd + 1 + j)) j), .int (nI (dd + 1 + j))] [] (hp S) Po := by
  intro n
  induction n with
  | zero =>
    intro j hj
    rw [show j = (119 - dd) by omega]
    refine k_iload_n eX4_lostBehind_6 rfl ?_
    refine k_iload_n eX4_lostBehind_7 rfl ?_
    refine k_aload_n eX4_lostBehind_8 rfl ?_
    refine GX4_24 eX4_lostBehind_9 rfl ?_
    refine k_topi (nI lo) hlo ?_
    refine k_iaddN eX4_lostBehind_12 ?_
    refine k_icmp_gtN 39 eX4_lostBehind_13 (by decide) (by omega) (by omega) (fun c_13 => by exfalso; omega) (fun c_13 => ?_)
    refine k_iload_n eX4_lostBehind_16 rfl ?_
    refine k_bipush (v := nI 120) eX4_lostBehind_17 (by decide) ?_
    refine k_icmp_geN 39 eX4_lostBehind_19 (by decide) (by omega) (by omega) (fun c_19 => ?_) (fun c_19 => by exfalso; omega)
    exact kx
  | succ n ih =>
    intro j hj
    refine k_iload_n eX4_lostBehind_6 rfl ?_
    refine k_iload_n eX4_lostBehind_7 rfl ?_
    refine k_aload_n eX4_lostBehind_8 rfl ?_
    refine GX4_24 eX4_lostBehind_9 rfl ?_
    refine k_topi (nI lo) hlo ?_
    refine k_iaddN eX4_lostBehind_12 ?_
    refine k_icmp_gtN 39 eX4_lostBehind_13 (by decide) (by omega) (by omega) (fun c_13 => by exfalso; omega) (fun c_13 => ?_)
    refine k_iload_n eX4_lostBehind_16 rfl ?_
    refine k_bipush (v := nI 120) eX4_lostBehind_17 (by decide) ?_
    refine k_icmp_geN 39 eX4_lostBehind_19 (by decide) (by omega) (by omega) (fun c_19 => by exfalso; omega) (fun c_19 => ?_)
    refine k_iload_n eX4_lostBehind_22 rfl ?_
    refine k_aload_n eX4_lostBehind_23 rfl ?_
    refine GX4_38 eX4_lostBehind_24 rfl ?_
    refine k_iload_n eX4_lostBehind_27 rfl ?_
    refine cN1 (M' := MX11_read) eX4_lostBehind_28 mX4_79 wX11_read sX11_read rfl (pX11_readN (j := (dd + 1 + j)) (ar51 _) (by omega) (by decide)) (by omega) (Nat.le_of_ble_eq_true rfl) ?_
    refine k_topi ((f (dd + 1 + j))) (hf _ (by omega)) ?_
    refine k_iadd eX4_lostBehind_31 ?_
    refine k_istore_n (L2 := [_, _, _, _]) eX4_lostBehind_32 (Nat.le_of_ble_eq_true rfl) rfl ?_
    refine k_iincN (g := 1) (a := (dd + 1 + j)) (L2 := [_, _, _, _]) eX4_lostBehind_33 (Nat.le_of_ble_eq_true rfl) rfl rfl ?_
    refine k_goto 6 eX4_lostBehind_36 (by decide) ?_
    exact ih (j + 1) (by omega)
set_option maxHeartbeats 400000 in
theorem pX4_lostBehindA {S : k_S} {lo dd : Nat} (hlo : S.1 1907 = nI lo) (hlo2 : lo ≤ 60) (hdd2 : dd < 120) {f : Nat → Int32} (hf : ∀ i, i < 120 → S.2.1 51 i = f i) (hc : lo ≤ 119 - dd) : Sp 1 0 0 MX4_lostBehind [.ref 38, .int (nI dd)] (hp S) (Rt (some (.int (sumN (fun j => f (dd + 1 + j)) lo))) (hp S)) := by
  refine Sp_of (by decide +kernel) (Nat.le_of_ble_eq_true rfl) ?_
  show AW none MX4_lostBehind 1 0 0 0 [.ref 38, .int (nI dd), .null, .null] [] (hp S) _
  refine k_iconst (v := nI 0) eX4_lostBehind_0 (by decide) ?_
  refine k_istore_n (L2 := [_, _, _, _]) eX4_lostBehind_1 (Nat.le_of_ble_eq_true rfl) rfl ?_
  refine k_iload_n eX4_lostBehind_2 rfl ?_
  refine k_iconst (v := nI 1) eX4_lostBehind_3 (by decide) ?_
  refine k_iaddN eX4_lostBehind_4 ?_
  refine k_istore_n (L2 := [_, _, _, _]) eX4_lostBehind_5 (Nat.le_of_ble_eq_true rfl) rfl ?_
  refine k_loc (L2 := [_, _, _, .int (nI (dd + 1 + 0))]) rfl ?_
  refine lX4_lostBehindA (by decide) hlo hlo2 hdd2 hf hc ?_ lo 0 (by omega)
  refine k_iload_n eX4_lostBehind_39 rfl ?_
  refine k_ireturn eX4_lostBehind_40 rfl rfl ?_
  exact ⟨rfl, rfl⟩
set_option maxHeartbeats 400000 in
theorem pX4_lostBehindB {S : k_S} {lo dd : Nat} (hlo : S.1 1907 = nI lo) (hlo2 : lo ≤ 60) (hdd2 : dd < 120) {f : Nat → Int32} (hf : ∀ i, i < 120 → S.2.1 51 i = f i) (hc : ¬ lo ≤ 119 - dd) : Sp 1 0 0 MX4_lostBehind [.ref 38, .int (nI dd)] (hp S) (Rt (some (.int (sumN (fun j => f (dd + 1 + j)) (119 - dd)))) (hp S)) := by
  refine Sp_of (by decide +kernel) (Nat.le_of_ble_eq_true rfl) ?_
  show AW none MX4_lostBehind 1 0 0 0 [.ref 38, .int (nI dd), .null, .null] [] (hp S) _
  refine k_iconst (v := nI 0) eX4_lostBehind_0 (by decide) ?_
  refine k_istore_n (L2 := [_, _, _, _]) eX4_lostBehind_1 (Nat.le_of_ble_eq_true rfl) rfl ?_
  refine k_iload_n eX4_lostBehind_2 rfl ?_
  refine k_iconst (v := nI 1) eX4_lostBehind_3 (by decide) ?_
  refine k_iaddN eX4_lostBehind_4 ?_
  refine k_istore_n (L2 := [_, _, _, _]) eX4_lostBehind_5 (Nat.le_of_ble_eq_true rfl) rfl ?_
  refine k_loc (L2 := [_, _, _, .int (nI (dd + 1 + 0))]) rfl ?_
  refine lX4_lostBehindB (by decide) hlo hlo2 hdd2 hf hc ?_ (119 - dd) 0 (by omega)
  refine k_iload_n eX4_lostBehind_39 rfl ?_
  refine k_ireturn eX4_lostBehind_40 rfl rfl ?_
  exact ⟨rfl, rfl⟩
theorem pX4_lostBehind {S : k_S} {lo dd : Nat} (hlo : S.1 1907 = nI lo) (hlo2 : lo ≤ 60) (hdd2 : dd < 120) {f : Nat → Int32} (hf : ∀ i, i < 120 → S.2.1 51 i = f i) : Sp 1 0 0 MX4_lostBehind [.ref 38, .int (nI dd)] (hp S) (Rt (some (.int (sumN (fun j => f (dd + 1 + j)) (min lo (119 - dd))))) (hp S)) := by
  by_cases hc : lo ≤ 119 - dd
  · rw [Nat.min_eq_left hc]; exact pX4_lostBehindA hlo hlo2 hdd2 hf hc
  · rw [Nat.min_eq_right (by omega)]; exact pX4_lostBehindB hlo hlo2 hdd2 hf hc
set_option maxHeartbeats 400000 in
theorem lX4_readBrings {d : Nat} {Po : Option Value → k_H → Prop} (hdd : 3 ≤ d) {S : k_S} {V : k_V} (hV : vC S = V) (hpl : PlanOk V){r n0 : Nat} {t : Int32} (hr : r < 5) (hn0 : n0 ≤ 120) (ht : ∀ j, j ≤ 120 → (t < nI j ↔ n0 ≤ j)) (ht2 : 0 < n0 → t = nI (n0 - 1)) (kx : AW none MX4_readBrings d 0 0 67 [.ref 38, .int (nI r), .int (t), .int (sumN (bg V r n0) 120), .int (nI 120), .null] [] (hp (sa S 51 (fillN (bg V r n0) (S.2.1 51) 120))) Po) : ∀ (n j : Nat), j + n = 120 → AW none MX4_readBrings d 0 0 5 [.ref 38, .int (nI r), .int (t), .int (sumN (bg V r n0) j), .int (nI j), .null] [] (hp (sa S 51 (fillN (bg V r n0) (S.2.1 51) j))) Po := by
  intro n
  induction n with
  | zero =>
    intro j hj
    rw [show j = 120 by omega]
    refine k_iload eX4_readBrings_5 rfl ?_
    refine k_bipush (v := nI 120) eX4_readBrings_7 (by decide) ?_
    refine k_icmp_geN 67 eX4_readBrings_9 (by decide) (by omega) (by omega) (fun c_9 => ?_) (fun c_9 => by exfalso; omega)
    exact kx
  | succ n ih =>
    intro j hj
    obtain ⟨T, hT⟩ : ∃ T, (sa S 51 (fillN (bg V r n0) (S.2.1 51) j)) = T := ⟨_, rfl⟩
    have hVT : vC T = V := by rw [← hT]; exact hV
    rw [hT]
    refine k_iload eX4_readBrings_5 rfl ?_
    refine k_bipush (v := nI 120) eX4_readBrings_7 (by decide) ?_
    refine k_icmp_geN 67 eX4_readBrings_9 (by decide) (by omega) (by omega) (fun c_9 => by exfalso; omega) (fun c_9 => ?_)
    refine k_iload eX4_readBrings_12 rfl ?_
    refine k_iload_n eX4_readBrings_14 rfl ?_
    refine k_icmp_gt 42 eX4_readBrings_15 (by decide) (fun c_15 => ?_) (fun c_15 => ?_)
    · refine k_iconst (v := nI 0) eX4_readBrings_42 (by decide) ?_
      refine k_istore (L2 := [_, _, _, _, _, _]) eX4_readBrings_43 (Nat.le_of_ble_eq_true rfl) rfl ?_
      refine k_aload_n eX4_readBrings_45 rfl ?_
      refine GX4_38 eX4_readBrings_46 rfl ?_
      refine k_iload eX4_readBrings_49 rfl ?_
      refine k_iload eX4_readBrings_51 rfl ?_
      refine cN0 (M' := MX11_write) eX4_readBrings_53 mX4_75 wX11_write sX11_write rfl (pX11_writeN (j := j) (v := nI 0) (ar51 _) (by omega) (by decide) (as51 _ _)) (by omega) (Nat.le_of_ble_eq_true rfl) ?_
      refine k_iload_n eX4_readBrings_56 rfl ?_
      refine k_iload eX4_readBrings_57 rfl ?_
      refine k_iadd eX4_readBrings_59 ?_
      refine k_istore_n (L2 := [_, _, _, _, _, _]) eX4_readBrings_60 (Nat.le_of_ble_eq_true rfl) rfl ?_
      refine k_iincN (g := 1) (a := j) (L2 := [_, _, _, _, _, _]) eX4_readBrings_61 (Nat.le_of_ble_eq_true rfl) rfl rfl ?_
      refine k_goto 5 eX4_readBrings_64 (by decide) ?_
      refine k_forget 5 (L2 := [_, _, _, _, _, _]) rfl ?_
      have q := ih (j + 1) (by omega)
      rw [fillN, sumN_s] at q
      subst hT
      rw [sa_sa, sa_at]
      first | (rw [show bg V r n0 j = pts V r (pw V j) (n0 - 1 - j) from if_pos hjn] at q; exact q) | (rw [show bg V r n0 j = nI 0 from if_neg (Nat.not_lt.mpr ((ht j (by omega)).mp (by first | exact c_15 | exact Int32.not_le.mp c_15)))] at q; exact q)
    have hjn : j < n0 := by
      rcases Nat.lt_or_ge j n0 with q | q
      · exact q
      · exact absurd ((ht j (by omega)).mpr q) (by first | exact c_15 | exact Int32.not_lt.mpr c_15)
    have ett := ht2 (by omega)
    subst ett
    have hpw := hpl.lt (d := j) (by omega)
    refine k_aload_n eX4_readBrings_18 rfl ?_
    refine GX4_41 eX4_readBrings_19 rfl ?_
    refine k_iload_n eX4_readBrings_22 rfl ?_
    refine k_aload_n eX4_readBrings_23 rfl ?_
    refine GX4_49 eX4_readBrings_24 rfl ?_
    refine k_iload eX4_readBrings_27 rfl ?_
    refine cV1 (M' := MX2_at) eX4_readBrings_29 mX4_90 wX2_at vX2_at ⟨_, _, _, rfl, rfl, rfl⟩ rfl (pX2_at (S := T) (j := j) (by omega)) (by omega) (Nat.le_of_ble_eq_true rfl) ?_
    refine k_topi (nI (pw V j)) (vpl hVT hpl (by omega)) ?_
    refine k_iload_n eX4_readBrings_32 rfl ?_
    refine k_iload eX4_readBrings_33 rfl ?_
    refine k_isubN eX4_readBrings_35 (by omega) ?_
    refine cV1 (M' := MX3_brought) eX4_readBrings_36 mX4_120 wX3_brought vX3_brought ⟨_, _, _, rfl, rfl, rfl⟩ rfl (pX3_brought (S := T) (V := V) (r := r) (w := pw V j) (k := n0 - 1 - j) hVT (by omega) (by omega) (by omega)) (by omega) (Nat.le_of_ble_eq_true rfl) ?_
    refine k_goto 43 eX4_readBrings_39 (by decide) ?_
    refine k_istore (L2 := [_, _, _, _, _, _]) eX4_readBrings_43 (Nat.le_of_ble_eq_true rfl) rfl ?_
    refine k_aload_n eX4_readBrings_45 rfl ?_
    refine GX4_38 eX4_readBrings_46 rfl ?_
    refine k_iload eX4_readBrings_49 rfl ?_
    refine k_iload eX4_readBrings_51 rfl ?_
    refine cN0 (M' := MX11_write) eX4_readBrings_53 mX4_75 wX11_write sX11_write rfl (pX11_writeN (j := j) (v := (pts V r (pw V j) (n0 - 1 - j))) (ar51 _) (by omega) (by decide) (as51 _ _)) (by omega) (Nat.le_of_ble_eq_true rfl) ?_
    refine k_iload_n eX4_readBrings_56 rfl ?_
    refine k_iload eX4_readBrings_57 rfl ?_
    refine k_iadd eX4_readBrings_59 ?_
    refine k_istore_n (L2 := [_, _, _, _, _, _]) eX4_readBrings_60 (Nat.le_of_ble_eq_true rfl) rfl ?_
    refine k_iincN (g := 1) (a := j) (L2 := [_, _, _, _, _, _]) eX4_readBrings_61 (Nat.le_of_ble_eq_true rfl) rfl rfl ?_
    refine k_goto 5 eX4_readBrings_64 (by decide) ?_
    refine k_forget 5 (L2 := [_, _, _, _, _, _]) rfl ?_
    have q := ih (j + 1) (by omega)
    rw [fillN, sumN_s] at q
    subst hT
    rw [sa_sa, sa_at]
    first | (rw [show bg V r n0 j = pts V r (pw V j) (n0 - 1 - j) from if_pos hjn] at q; exact q) | (rw [show bg V r n0 j = nI 0 from if_neg (Nat.not_lt.mpr ((ht j (by omega)).mp (by first | exact c_15 | exact Int32.not_le.mp c_15)))] at q; exact q)
set_option maxHeartbeats 400000 in
theorem pX4_readBrings {S : k_S} {V : k_V} (hV : vC S = V) (hpl : PlanOk V){r n0 : Nat} {t : Int32} (hr : r < 5) (hn0 : n0 ≤ 120) (ht : ∀ j, j ≤ 120 → (t < nI j ↔ n0 ≤ j)) (ht2 : 0 < n0 → t = nI (n0 - 1)) : Sp 3 0 0 MX4_readBrings [.ref 38, .int (nI r), .int (t)] (hp S) (Rt (some (.int (sumN (bg V r n0) 120))) (hp (sa S 51 (fillN (bg V r n0) (S.2.1 51) 120)))) := by
  refine Sp_of (by decide +kernel) (Nat.le_of_ble_eq_true rfl) ?_
  show AW none MX4_readBrings 3 0 0 0 [.ref 38, .int (nI r), .int (t), .null, .null, .null] [] (hp S) _
  refine k_iconst (v := nI 0) eX4_readBrings_0 (by decide) ?_
  refine k_istore_n (L2 := [_, _, _, _, _, _]) eX4_readBrings_1 (Nat.le_of_ble_eq_true rfl) rfl ?_
  refine k_iconst (v := nI 0) eX4_readBrings_2 (by decide) ?_
  refine k_istore (L2 := [_, _, _, _, _, _]) eX4_readBrings_3 (Nat.le_of_ble_eq_true rfl) rfl ?_
  refine k_heap (h2 := hp (sa S 51 (fillN (bg V r n0) (S.2.1 51) 0))) (by rw [fillN, sa_self]) ?_
  refine lX4_readBrings (by decide) hV hpl hr hn0 ht ht2 ?_ 120 0 (by omega)
  refine k_iload_n eX4_readBrings_67 rfl ?_
  refine k_ireturn eX4_readBrings_68 rfl rfl ?_
  exact ⟨rfl, rfl⟩
