def mnG (f : Nat → Int32) : Nat → Int32
  | 0 => f 0
  | n + 1 => mn (mnG f n) (f (n + 1))
/-- what a runner gains on all days but one -/
def gEl (V : k_V) (dn d r : Nat) : Int32 := gai V dn r 120 - wor V dn r (pw V d) d
/-- what the runner who gains least then gains -/
def lsG (V : k_V) (dn rn d w : Nat) : Int32 := mnG (fun r => gEl V dn d r + wor V dn r w d) (rn - 1)
def frL (F : Nat → Int32) : Nat → Nat × Int32
  | 0 => (0, F 0)
  | n + 1 => if (frL F n).2 < F (n + 1) then (n + 1, F (n + 1)) else frL F n
def gpL (V : k_V) (d : Nat) : Nat → Nat × Int32
  | 0 => (0, fitv V 0 d)
  | n + 1 => if fitv V (n + 1) d < (gpL V d n).2 then (n + 1, fitv V (n + 1) d) else gpL V d n
theorem frL_le (F : Nat → Int32) : ∀ n, (frL F n).1 ≤ n
  | 0 => Nat.le_refl _
  | n + 1 => by have := frL_le F n; rw [frL]; split <;> simp <;> omega
def aGrp (V : k_V) (dn wk rn : Nat) (x w : Int32) : Int32 := if pD x ∧ pIn w (nI 0) (nI 2) then (if rn = 0 then -5 else if w = nI 2 then nI (frL (lsG V dn rn (ix x)) (wk - 1)).1 else if w = 0 then (gpL V (ix x) (rn - 1)).2 else nI (gpL V (ix x) (rn - 1)).1) else -2000000000
set_option maxHeartbeats 400000 in
theorem lX11_leastGained {d : Nat} {Po : Option Value → k_H → Prop} (hdd : 4 ≤ d) {S : k_S} {V : k_V} (hV : vC S = V) {dn : Nat} (hdn : S.1 1302 = nI dn) (hcd : CntOk V dn) (hpl : PlanOk V) {rn : Nat} (hrn : S.1 1003 = nI rn) (hrn5 : rn ≤ 5) (hr0 : 0 < rn) {w dd : Nat} (hw : w < 6) (hdd2 : dd < 120) (h15 : ∀ r, r < rn → S.2.1 15 r = gEl V dn dd r) (kx : AW none MX11_leastGained d 0 0 67 [.ref 0, .int (nI dd), .int (nI w), .int ((mnG (fun r => gEl V dn dd r + wor V dn r w dd) ((rn - 1)))), .int (nI (((rn - 1)) + 1))] [] (hp S) Po) : ∀ (n j : Nat), j + n = (rn - 1) → AW none MX11_leastGained d 0 0 23 [.ref 0, .int (nI dd), .int (nI w), .int ((mnG (fun r => gEl V dn dd r + wor V dn r w dd) j)), .int (nI (j + 1))] [] (hp S) Po := by
  intro n
  induction n with
  | zero =>
    intro j hj
    rw [show j = (rn - 1) by omega]
    refine k_iload eX11_leastGained_23 rfl ?_
    refine k_aload_n eX11_leastGained_25 rfl ?_
    refine GX11_71 eX11_leastGained_26 rfl ?_
    refine GX11_259 eX11_leastGained_29 rfl ?_
    refine k_topi (nI rn) hrn ?_
    refine k_icmp_geN 67 eX11_leastGained_32 (by decide) (by omega) (by omega) (fun c_32 => ?_) (fun c_32 => by exfalso; omega)
    exact kx
  | succ n ih =>
    intro j hj
    refine k_iload eX11_leastGained_23 rfl ?_
    refine k_aload_n eX11_leastGained_25 rfl ?_
    refine GX11_71 eX11_leastGained_26 rfl ?_
    refine GX11_259 eX11_leastGained_29 rfl ?_
    refine k_topi (nI rn) hrn ?_
    refine k_icmp_geN 67 eX11_leastGained_32 (by decide) (by omega) (by omega) (fun c_32 => by exfalso; omega) (fun c_32 => ?_)
    refine k_iload_n eX11_leastGained_35 rfl ?_
    refine k_aload_n eX11_leastGained_36 rfl ?_
    refine GX11_47 eX11_leastGained_37 rfl ?_
    refine k_iload eX11_leastGained_40 rfl ?_
    refine cS1 (M' := MX11_read) eX11_leastGained_42 mX11_334 wX11_read sX11_read rfl (pX11_readN (j := (j + 1)) (ar15 _) (by omega) (by decide)) (by omega) (Nat.le_of_ble_eq_true rfl) ?_
    refine k_topi ((gEl V dn dd (j + 1))) (h15 _ (by omega)) ?_
    refine k_aload_n eX11_leastGained_45 rfl ?_
    refine GX11_83 eX11_leastGained_46 rfl ?_
    refine k_iload eX11_leastGained_49 rfl ?_
    refine k_iload_n eX11_leastGained_51 rfl ?_
    refine k_iload_n eX11_leastGained_52 rfl ?_
    refine cV1 (M' := MX3_valueOf) eX11_leastGained_53 mX11_187 wX3_valueOf vX3_valueOf ⟨_, _, _, rfl, rfl, rfl⟩ rfl (pX3_valueOf (S := S) (V := V) (dn := dn) (r := (j + 1)) (w := w) (dd := dd) hV hdn hcd (by omega) (by omega) (by omega)) (by omega) (Nat.le_of_ble_eq_true rfl) ?_
    refine k_iadd eX11_leastGained_56 ?_
    refine k_mmin eX11_leastGained_57 mX11_152 (by omega) (Nat.le_of_ble_eq_true rfl) ?_
    refine k_istore_n (L2 := [_, _, _, _, _]) eX11_leastGained_60 (Nat.le_of_ble_eq_true rfl) rfl ?_
    refine k_iincN (g := 1) (a := (j + 1)) (L2 := [_, _, _, _, _]) eX11_leastGained_61 (Nat.le_of_ble_eq_true rfl) rfl rfl ?_
    refine k_goto 23 eX11_leastGained_64 (by decide) ?_
    have q := ih (j + 1) (by omega)
    rw [mnG] at q
    exact q
set_option maxHeartbeats 400000 in
theorem pX11_leastGained {S : k_S} {V : k_V} (hV : vC S = V) {dn : Nat} (hdn : S.1 1302 = nI dn) (hcd : CntOk V dn) (hpl : PlanOk V) {rn : Nat} (hrn : S.1 1003 = nI rn) (hrn5 : rn ≤ 5) (hr0 : 0 < rn) {w dd : Nat} (hw : w < 6) (hdd2 : dd < 120) (h15 : ∀ r, r < rn → S.2.1 15 r = gEl V dn dd r) : Sp 4 0 0 MX11_leastGained [.ref 0, .int (nI dd), .int (nI w)] (hp S) (Rt (some (.int (lsG V dn rn dd w))) (hp S)) := by
  refine Sp_of (by decide +kernel) (Nat.le_of_ble_eq_true rfl) ?_
  show AW none MX11_leastGained 4 0 0 0 [.ref 0, .int (nI dd), .int (nI w), .null, .null] [] (hp S) _
  refine k_aload_n eX11_leastGained_0 rfl ?_
  refine GX11_47 eX11_leastGained_1 rfl ?_
  refine k_iconst (v := nI 0) eX11_leastGained_4 (by decide) ?_
  refine cS1 (M' := MX11_read) eX11_leastGained_5 mX11_334 wX11_read sX11_read rfl (pX11_readN (j := 0) (ar15 _) (by omega) (by decide)) (by decide) (Nat.le_of_ble_eq_true rfl) ?_
  refine k_topi ((gEl V dn dd 0)) (h15 _ (by omega)) ?_
  refine k_aload_n eX11_leastGained_8 rfl ?_
  refine GX11_83 eX11_leastGained_9 rfl ?_
  refine k_iconst (v := nI 0) eX11_leastGained_12 (by decide) ?_
  refine k_iload_n eX11_leastGained_13 rfl ?_
  refine k_iload_n eX11_leastGained_14 rfl ?_
  refine cV1 (M' := MX3_valueOf) eX11_leastGained_15 mX11_187 wX3_valueOf vX3_valueOf ⟨_, _, _, rfl, rfl, rfl⟩ rfl (pX3_valueOf (S := S) (V := V) (dn := dn) (r := 0) (w := w) (dd := dd) hV hdn hcd (by omega) (by omega) (by omega)) (by decide) (Nat.le_of_ble_eq_true rfl) ?_
  refine k_iadd eX11_leastGained_18 ?_
  refine k_istore_n (L2 := [_, _, _, _, _]) eX11_leastGained_19 (Nat.le_of_ble_eq_true rfl) rfl ?_
  refine k_iconst (v := nI 1) eX11_leastGained_20 (by decide) ?_
  refine k_istore (L2 := [_, _, _, _, _]) eX11_leastGained_21 (Nat.le_of_ble_eq_true rfl) rfl ?_
  refine k_loc (L2 := [_, _, _, .int (mnG (fun r => gEl V dn dd r + wor V dn r w dd) 0), .int (nI (0 + 1))]) rfl ?_
  refine lX11_leastGained (by decide) hV hdn hcd hpl hrn hrn5 hr0 hw hdd2 h15 ?_ (rn - 1) 0 (by omega)
  refine k_iload_n eX11_leastGained_67 rfl ?_
  refine k_ireturn eX11_leastGained_68 rfl rfl ?_
  exact ⟨rfl, rfl⟩
set_option maxHeartbeats 400000 in
theorem lX11_fairestOn {d : Nat} {Po : Option Value → k_H → Prop} (hdd : 5 ≤ d) {S : k_S} {V : k_V} (hV : vC S = V) {dn : Nat} (hdn : S.1 1302 = nI dn) (hcd : CntOk V dn) (hpl : PlanOk V) {rn : Nat} (hrn : S.1 1003 = nI rn) (hrn5 : rn ≤ 5) (hr0 : 0 < rn) {wk : Nat} (hwk : S.1 803 = nI wk) (hwk1 : 1 ≤ wk) (hwk6 : wk ≤ 6) {dd : Nat} (hdd2 : dd < 120) (kx : AW none MX11_fairestOn d 0 0 53 [.ref 0, .int (nI dd), .int (nI rn), .null, .null, .null] [] (hp (sa S 15 (fillN (gEl V dn dd) (S.2.1 15) rn))) Po) : ∀ (n j : Nat), j + n = rn → AW none MX11_fairestOn d 0 0 2 [.ref 0, .int (nI dd), .int (nI j), .null, .null, .null] [] (hp (sa S 15 (fillN (gEl V dn dd) (S.2.1 15) j))) Po := by
  intro n
  induction n with
  | zero =>
    intro j hj
    rw [show j = rn by omega]
    refine k_iload_n eX11_fairestOn_2 rfl ?_
    refine k_aload_n eX11_fairestOn_3 rfl ?_
    refine GX11_71 eX11_fairestOn_4 rfl ?_
    refine GX11_259 eX11_fairestOn_7 rfl ?_
    refine k_topi (nI rn) hrn ?_
    refine k_icmp_geN 53 eX11_fairestOn_10 (by decide) (by omega) (by omega) (fun c_10 => ?_) (fun c_10 => by exfalso; omega)
    exact kx
  | succ n ih =>
    intro j hj
    obtain ⟨T, hT⟩ : ∃ T, (sa S 15 (fillN (gEl V dn dd) (S.2.1 15) j)) = T := ⟨_, rfl⟩
    have hV2 : vC T = V := by rw [← hT]; exact hV
    have hdn2 : T.1 1302 = nI dn := by rw [← hT]; exact hdn
    have hrn2 : T.1 1003 = nI rn := by rw [← hT]; exact hrn
    have hpw := hpl.lt (d := dd) hdd2
    rw [hT]
    refine k_iload_n eX11_fairestOn_2 rfl ?_
    refine k_aload_n eX11_fairestOn_3 rfl ?_
    refine GX11_71 eX11_fairestOn_4 rfl ?_
    refine GX11_259 eX11_fairestOn_7 rfl ?_
    refine k_topi (nI rn) hrn2 ?_
    refine k_icmp_geN 53 eX11_fairestOn_10 (by decide) (by omega) (by omega) (fun c_10 => by exfalso; omega) (fun c_10 => ?_)
    refine k_aload_n eX11_fairestOn_13 rfl ?_
    refine GX11_47 eX11_fairestOn_14 rfl ?_
    refine k_iload_n eX11_fairestOn_17 rfl ?_
    refine k_aload_n eX11_fairestOn_18 rfl ?_
    refine GX11_83 eX11_fairestOn_19 rfl ?_
    refine k_iload_n eX11_fairestOn_22 rfl ?_
    refine cV1 (M' := MX3_gainedOf) eX11_fairestOn_23 mX11_190 wX3_gainedOf vX3_gainedOf ⟨_, _, _, rfl, rfl, rfl⟩ rfl (pX3_gainedOf (S := T) (V := V) (dn := dn) (r := j) hV2 hdn2 hcd hpl (by omega)) (by omega) (Nat.le_of_ble_eq_true rfl) ?_
    refine k_aload_n eX11_fairestOn_26 rfl ?_
    refine GX11_83 eX11_fairestOn_27 rfl ?_
    refine k_iload_n eX11_fairestOn_30 rfl ?_
    refine k_aload_n eX11_fairestOn_31 rfl ?_
    refine GX11_75 eX11_fairestOn_32 rfl ?_
    refine k_iload_n eX11_fairestOn_35 rfl ?_
    refine cV1 (M' := MX2_at) eX11_fairestOn_36 mX11_161 wX2_at vX2_at ⟨_, _, _, rfl, rfl, rfl⟩ rfl (pX2_at (S := T) (j := dd) (by omega)) (by omega) (Nat.le_of_ble_eq_true rfl) ?_
    refine k_topi (nI (pw V dd)) (vpl hV2 hpl (by omega)) ?_
    refine k_iload_n eX11_fairestOn_39 rfl ?_
    refine cV1 (M' := MX3_valueOf) eX11_fairestOn_40 mX11_187 wX3_valueOf vX3_valueOf ⟨_, _, _, rfl, rfl, rfl⟩ rfl (pX3_valueOf (S := T) (V := V) (dn := dn) (r := j) (w := pw V dd) (dd := dd) hV2 hdn2 hcd (by omega) (by omega) (by omega)) (by omega) (Nat.le_of_ble_eq_true rfl) ?_
    refine k_isub eX11_fairestOn_43 ?_
    refine cS0 (M' := MX11_write) eX11_fairestOn_44 mX11_211 wX11_write sX11_write rfl (pX11_writeN (j := j) (v := ((gai V dn j 120) - (wor V dn j (pw V dd) dd))) (ar15 _) (by omega) (by decide) (as15 _ _)) (by omega) (Nat.le_of_ble_eq_true rfl) ?_
    refine k_iincN (g := 1) (a := j) (L2 := [_, _, _, _, _, _]) eX11_fairestOn_47 (Nat.le_of_ble_eq_true rfl) rfl rfl ?_
    refine k_goto 2 eX11_fairestOn_50 (by decide) ?_
    have q := ih (j + 1) (by omega)
    rw [fillN] at q
    subst hT
    rw [sa_sa, sa_at]
    exact q
set_option maxHeartbeats 400000 in
theorem mX11_fairestOn {d : Nat} {Po : Option Value → k_H → Prop} (hdd : 5 ≤ d) {S : k_S} {V : k_V} (hV : vC S = V) {dn : Nat} (hdn : S.1 1302 = nI dn) (hcd : CntOk V dn) (hpl : PlanOk V) {rn : Nat} (hrn : S.1 1003 = nI rn) (hrn5 : rn ≤ 5) (hr0 : 0 < rn) {wk : Nat} (hwk : S.1 803 = nI wk) (hwk1 : 1 ≤ wk) (hwk6 : wk ≤ 6) {dd : Nat} (hdd2 : dd < 120) (h15 : ∀ r, r < rn → S.2.1 15 r = gEl V dn dd r) (kx : AW none MX11_fairestOn d 0 0 104 [.ref 0, .int (nI dd), .int (nI ((frL (lsG V dn rn dd) ((wk - 1))).1)), .int ((frL (lsG V dn rn dd) ((wk - 1))).2), .int (nI (((wk - 1)) + 1)), .null] [] (hp S) Po) : ∀ (n j : Nat), j + n = (wk - 1) → AW none MX11_fairestOn d 0 0 65 [.ref 0, .int (nI dd), .int (nI ((frL (lsG V dn rn dd) j).1)), .int ((frL (lsG V dn rn dd) j).2), .int (nI (j + 1)), .null] [] (hp S) Po := by
  intro n
  induction n with
  | zero =>
    intro j hj
    rw [show j = (wk - 1) by omega]
    refine k_iload eX11_fairestOn_65 rfl ?_
    refine k_aload_n eX11_fairestOn_67 rfl ?_
    refine GX11_67 eX11_fairestOn_68 rfl ?_
    refine GX11_325 eX11_fairestOn_71 rfl ?_
    refine k_topi (nI wk) hwk ?_
    refine k_icmp_geN 104 eX11_fairestOn_74 (by decide) (by omega) (by omega) (fun c_74 => ?_) (fun c_74 => by exfalso; omega)
    exact kx
  | succ n ih =>
    intro j hj
    refine k_iload eX11_fairestOn_65 rfl ?_
    refine k_aload_n eX11_fairestOn_67 rfl ?_
    refine GX11_67 eX11_fairestOn_68 rfl ?_
    refine GX11_325 eX11_fairestOn_71 rfl ?_
    refine k_topi (nI wk) hwk ?_
    refine k_icmp_geN 104 eX11_fairestOn_74 (by decide) (by omega) (by omega) (fun c_74 => by exfalso; omega) (fun c_74 => ?_)
    refine k_aload_n eX11_fairestOn_77 rfl ?_
    refine k_iload_n eX11_fairestOn_78 rfl ?_
    refine k_iload eX11_fairestOn_79 rfl ?_
    refine cV1 (M' := MX11_leastGained) eX11_fairestOn_81 mX11_340 wX11_leastGained vX11_leastGained ⟨_, _, _, rfl, rfl, rfl⟩ rfl (pX11_leastGained (S := S) (V := V) (dn := dn) (rn := rn) (w := j + 1) (dd := dd) hV hdn hcd hpl hrn hrn5 hr0 (by omega) hdd2 h15) (by omega) (Nat.le_of_ble_eq_true rfl) ?_
    refine k_istore (L2 := [_, _, _, _, _, _]) eX11_fairestOn_84 (Nat.le_of_ble_eq_true rfl) rfl ?_
    refine k_iload eX11_fairestOn_86 rfl ?_
    refine k_iload_n eX11_fairestOn_88 rfl ?_
    refine k_icmp_le 98 eX11_fairestOn_89 (by decide) (fun c_89 => ?_) (fun c_89 => ?_)
    · refine k_iincN (g := 1) (a := (j + 1)) (L2 := [_, _, _, _, _, _]) eX11_fairestOn_98 (Nat.le_of_ble_eq_true rfl) rfl rfl ?_
      refine k_goto 65 eX11_fairestOn_101 (by decide) ?_
      refine k_forget 5 (L2 := [_, _, _, _, _, _]) rfl ?_
      have q := ih (j + 1) (by omega)
      rw [frL] at q
      first | (rw [if_neg (Int32.not_lt.mpr c_89)] at q; exact q) | (rw [if_pos (Int32.not_le.mp c_89)] at q; exact q)
    refine k_iload eX11_fairestOn_92 rfl ?_
    refine k_istore_n (L2 := [_, _, _, _, _, _]) eX11_fairestOn_94 (Nat.le_of_ble_eq_true rfl) rfl ?_
    refine k_iload eX11_fairestOn_95 rfl ?_
    refine k_istore_n (L2 := [_, _, _, _, _, _]) eX11_fairestOn_97 (Nat.le_of_ble_eq_true rfl) rfl ?_
    refine k_iincN (g := 1) (a := (j + 1)) (L2 := [_, _, _, _, _, _]) eX11_fairestOn_98 (Nat.le_of_ble_eq_true rfl) rfl rfl ?_
    refine k_goto 65 eX11_fairestOn_101 (by decide) ?_
    refine k_forget 5 (L2 := [_, _, _, _, _, _]) rfl ?_
    have q := ih (j + 1) (by omega)
    rw [frL] at q
    first | (rw [if_neg (Int32.not_lt.mpr c_89)] at q; exact q) | (rw [if_pos (Int32.not_le.mp c_89)] at q; exact q)
set_option maxHeartbeats 400000 in
theorem pX11_fairestOn {S : k_S} {V : k_V} (hV : vC S = V) {dn : Nat} (hdn : S.1 1302 = nI dn) (hcd : CntOk V dn) (hpl : PlanOk V) {rn : Nat} (hrn : S.1 1003 = nI rn) (hrn5 : rn ≤ 5) (hr0 : 0 < rn) {wk : Nat} (hwk : S.1 803 = nI wk) (hwk1 : 1 ≤ wk) (hwk6 : wk ≤ 6) {dd : Nat} (hdd2 : dd < 120) : Sp 5 0 0 MX11_fairestOn [.ref 0, .int (nI dd)] (hp S) (Rt (some (.int (nI (frL (lsG V dn rn dd) (wk - 1)).1))) (hp (sa S 15 (fillN (gEl V dn dd) (S.2.1 15) rn)))) := by
  refine Sp_of (by decide +kernel) (Nat.le_of_ble_eq_true rfl) ?_
  show AW none MX11_fairestOn 5 0 0 0 [.ref 0, .int (nI dd), .null, .null, .null, .null] [] (hp S) _
  refine k_iconst (v := nI 0) eX11_fairestOn_0 (by decide) ?_
  refine k_istore_n (L2 := [_, _, _, _, _, _]) eX11_fairestOn_1 (Nat.le_of_ble_eq_true rfl) rfl ?_
  refine k_heap (h2 := hp (sa S 15 (fillN (gEl V dn dd) (S.2.1 15) 0))) (by rw [fillN, sa_self]) ?_
  refine lX11_fairestOn (by decide) hV hdn hcd hpl hrn hrn5 hr0 hwk hwk1 hwk6 hdd2 ?_ rn 0 (by omega)
  obtain ⟨T, hT⟩ : ∃ T, (sa S 15 (fillN (gEl V dn dd) (S.2.1 15) rn)) = T := ⟨_, rfl⟩
  have hV2 : vC T = V := by rw [← hT]; exact hV
  have hdn2 : T.1 1302 = nI dn := by rw [← hT]; exact hdn
  have hrn2 : T.1 1003 = nI rn := by rw [← hT]; exact hrn
  have hwk2 : T.1 803 = nI wk := by rw [← hT]; exact hwk
  have h15 : ∀ r, r < rn → T.2.1 15 r = gEl V dn dd r := by
    rw [← hT, sa_at]
    intro r hr
    rw [fillN_at, if_pos hr]
  rw [hT]
  refine k_iconst (v := nI 0) eX11_fairestOn_53 (by decide) ?_
  refine k_istore_n (L2 := [_, _, _, _, _, _]) eX11_fairestOn_54 (Nat.le_of_ble_eq_true rfl) rfl ?_
  refine k_aload_n eX11_fairestOn_55 rfl ?_
  refine k_iload_n eX11_fairestOn_56 rfl ?_
  refine k_iconst (v := nI 0) eX11_fairestOn_57 (by decide) ?_
  refine cV1 (M' := MX11_leastGained) eX11_fairestOn_58 mX11_340 wX11_leastGained vX11_leastGained ⟨_, _, _, rfl, rfl, rfl⟩ rfl (pX11_leastGained (S := T) (V := V) (dn := dn) (rn := rn) (w := 0) (dd := dd) hV2 hdn2 hcd hpl hrn2 hrn5 hr0 (by omega) hdd2 h15) (by decide) (Nat.le_of_ble_eq_true rfl) ?_
  refine k_istore_n (L2 := [_, _, _, _, _, _]) eX11_fairestOn_61 (Nat.le_of_ble_eq_true rfl) rfl ?_
  refine k_iconst (v := nI 1) eX11_fairestOn_62 (by decide) ?_
  refine k_istore (L2 := [_, _, _, _, _, _]) eX11_fairestOn_63 (Nat.le_of_ble_eq_true rfl) rfl ?_
  refine k_loc (L2 := [_, _, .int (nI (frL (lsG V dn rn dd) 0).1), _, .int (nI (0 + 1)), _]) rfl ?_
  refine mX11_fairestOn (by decide) (S := T) hV2 hdn2 hcd hpl hrn2 hrn5 hr0 hwk2 hwk1 hwk6 hdd2 h15 ?_ (wk - 1) 0 (by omega)
  refine k_iload_n eX11_fairestOn_104 rfl ?_
  refine k_ireturn eX11_fairestOn_105 rfl rfl ?_
  exact ⟨rfl, rfl⟩
set_option maxHeartbeats 400000 in
theorem lX11_group {d : Nat} {Po : Option Value → k_H → Prop} (hdd : 4 ≤ d) {S : k_S} {V : k_V} (hV : vC S = V) (hpl : PlanOk V) {rn : Nat} (hrn : S.1 1003 = nI rn) (hrn5 : rn ≤ 5) (hr0 : 0 < rn) {dd : Nat} (hdd2 : dd < 120) (w : Int32) (kx : AW none MX11_group d 0 0 103 [.ref 0, .int (nI dd), .int (w), .int (nI ((gpL V dd ((rn - 1))).1)), .int ((gpL V dd ((rn - 1))).2), .int (nI (((rn - 1)) + 1)), .null] [] (hp S) Po) : ∀ (n j : Nat), j + n = (rn - 1) → AW none MX11_group d 0 0 59 [.ref 0, .int (nI dd), .int (w), .int (nI ((gpL V dd j).1)), .int ((gpL V dd j).2), .int (nI (j + 1)), .null] [] (hp S) Po := by
  intro n
  induction n with
  | zero =>
    intro j hj
    rw [show j = (rn - 1) by omega]
    refine k_iload eX11_group_59 rfl ?_
    refine k_aload_n eX11_group_61 rfl ?_
    refine GX11_71 eX11_group_62 rfl ?_
    refine GX11_259 eX11_group_65 rfl ?_
    refine k_topi (nI rn) hrn ?_
    refine k_icmp_geN 103 eX11_group_68 (by decide) (by omega) (by omega) (fun c_68 => ?_) (fun c_68 => by exfalso; omega)
    exact kx
  | succ n ih =>
    intro j hj
    refine k_iload eX11_group_59 rfl ?_
    refine k_aload_n eX11_group_61 rfl ?_
    refine GX11_71 eX11_group_62 rfl ?_
    refine GX11_259 eX11_group_65 rfl ?_
    refine k_topi (nI rn) hrn ?_
    refine k_icmp_geN 103 eX11_group_68 (by decide) (by omega) (by omega) (fun c_68 => by exfalso; omega) (fun c_68 => ?_)
    refine k_aload_n eX11_group_71 rfl ?_
    refine GX11_83 eX11_group_72 rfl ?_
    refine k_iload eX11_group_75 rfl ?_
    refine k_iload_n eX11_group_77 rfl ?_
    refine cV1 (M' := MX3_fitOn) eX11_group_78 mX11_268 wX3_fitOn vX3_fitOn ⟨_, _, _, rfl, rfl, rfl⟩ rfl (pX3_fitOn (S := S) (V := V) (r := (j + 1)) (day := dd) hV hpl (by omega) (by omega)) (by omega) (Nat.le_of_ble_eq_true rfl) ?_
    refine k_istore (L2 := [_, _, _, _, _, _, _]) eX11_group_81 (Nat.le_of_ble_eq_true rfl) rfl ?_
    refine k_iload eX11_group_83 rfl ?_
    refine k_iload eX11_group_85 rfl ?_
    refine k_icmp_ge 97 eX11_group_87 (by decide) (fun c_87 => ?_) (fun c_87 => ?_)
    · refine k_iincN (g := 1) (a := (j + 1)) (L2 := [_, _, _, _, _, _, _]) eX11_group_97 (Nat.le_of_ble_eq_true rfl) rfl rfl ?_
      refine k_goto 59 eX11_group_100 (by decide) ?_
      refine k_forget 6 (L2 := [_, _, _, _, _, _, _]) rfl ?_
      have q := ih (j + 1) (by omega)
      rw [gpL] at q
      first | (rw [if_neg (Int32.not_lt.mpr c_87)] at q; exact q) | (rw [if_pos (Int32.not_le.mp c_87)] at q; exact q)
    refine k_iload eX11_group_90 rfl ?_
    refine k_istore (L2 := [_, _, _, _, _, _, _]) eX11_group_92 (Nat.le_of_ble_eq_true rfl) rfl ?_
    refine k_iload eX11_group_94 rfl ?_
    refine k_istore_n (L2 := [_, _, _, _, _, _, _]) eX11_group_96 (Nat.le_of_ble_eq_true rfl) rfl ?_
    refine k_iincN (g := 1) (a := (j + 1)) (L2 := [_, _, _, _, _, _, _]) eX11_group_97 (Nat.le_of_ble_eq_true rfl) rfl rfl ?_
    refine k_goto 59 eX11_group_100 (by decide) ?_
    refine k_forget 6 (L2 := [_, _, _, _, _, _, _]) rfl ?_
    have q := ih (j + 1) (by omega)
    rw [gpL] at q
    first | (rw [if_neg (Int32.not_lt.mpr c_87)] at q; exact q) | (rw [if_pos (Int32.not_le.mp c_87)] at q; exact q)
set_option maxHeartbeats 400000 in
theorem pX11_group {S : k_S} {V : k_V} (hV : vC S = V) {dn : Nat} (hdn : S.1 1302 = nI dn) (hcd : CntOk V dn) (hpl : PlanOk V) {rn : Nat} (hrn : S.1 1003 = nI rn) (hrn5 : rn ≤ 5) {wk : Nat} (hwk : S.1 803 = nI wk) (hwk1 : 1 ≤ wk) (hwk6 : wk ≤ 6) (x w : Int32) : Sp 6 0 0 MX11_group [.ref 0, .int (x), .int (w)] (hp S) (Rx (some (.int (aGrp V dn wk rn x w))) (fun S' => Frm [] [15] [] S S')) := by
  refine Sp_of (by decide +kernel) (Nat.le_of_ble_eq_true rfl) ?_
  show AW none MX11_group 6 0 0 0 [.ref 0, .int (x), .int (w), .null, .null, .null, .null] [] (hp S) _
  refine k_iload_n eX11_group_0 rfl ?_
  refine cS1 (M' := MX11_isDay) eX11_group_1 mX11_122 wX11_isDay sX11_isDay rfl (pX11_isDay (x)) (by decide) (Nat.le_of_ble_eq_true rfl) ?_
  refine k_ifb_eq 16 eX11_group_4 (by decide) (fun c_4 => ?_) (fun c_4 => ?_)
  · refine k_ldc eX11_group_16 kX11_168 rfl ?_
    refine k_ireturn eX11_group_18 rfl rfl ?_
    exact ⟨by rw [aGrp, if_neg (fun q => by first | exact c_4 q.1 | exact c_13 q.2)], _, rfl, Frm.rf S⟩
  refine k_iload_n eX11_group_7 rfl ?_
  refine k_iconst (v := nI 0) eX11_group_8 (by decide) ?_
  refine k_iconst (v := nI 2) eX11_group_9 (by decide) ?_
  refine cS1 (M' := MX11_within) eX11_group_10 mX11_114 wX11_within sX11_within rfl (pX11_within (w) (nI 0) (nI 2)) (by decide) (Nat.le_of_ble_eq_true rfl) ?_
  refine k_ifb_ne 19 eX11_group_13 (by decide) (fun c_13 => ?_) (fun c_13 => ?_)
  · obtain ⟨dd, hdd2, rfl⟩ := pD_ex c_4
    refine k_aload_n eX11_group_19 rfl ?_
    refine GX11_71 eX11_group_20 rfl ?_
    refine GX11_259 eX11_group_23 rfl ?_
    refine k_topi (nI rn) hrn ?_
    refine k_if_neN 32 eX11_group_26 (by decide) (by omega) (fun c_26 => ?_) (fun c_26 => ?_)
    · have hr0 : 0 < rn := by omega
      refine k_iload_n eX11_group_32 rfl ?_
      refine k_iconst (v := nI 2) eX11_group_33 (by decide) ?_
      refine k_icmp_ne 43 eX11_group_34 (by decide) (fun c_34 => ?_) (fun c_34 => ?_)
      · refine k_iconst (v := nI 0) eX11_group_43 (by decide) ?_
        refine k_istore_n (L2 := [_, _, _, _, _, _, _]) eX11_group_44 (Nat.le_of_ble_eq_true rfl) rfl ?_
        refine k_aload_n eX11_group_45 rfl ?_
        refine GX11_83 eX11_group_46 rfl ?_
        refine k_iconst (v := nI 0) eX11_group_49 (by decide) ?_
        refine k_iload_n eX11_group_50 rfl ?_
        refine cV1 (M' := MX3_fitOn) eX11_group_51 mX11_268 wX3_fitOn vX3_fitOn ⟨_, _, _, rfl, rfl, rfl⟩ rfl (pX3_fitOn (S := S) (V := V) (r := 0) (day := dd) hV hpl (by omega) (by omega)) (by decide) (Nat.le_of_ble_eq_true rfl) ?_
        refine k_istore (L2 := [_, _, _, _, _, _, _]) eX11_group_54 (Nat.le_of_ble_eq_true rfl) rfl ?_
        refine k_iconst (v := nI 1) eX11_group_56 (by decide) ?_
        refine k_istore (L2 := [_, _, _, _, _, _, _]) eX11_group_57 (Nat.le_of_ble_eq_true rfl) rfl ?_
        have hr0 : 0 < rn := by omega
        refine k_loc (L2 := [_, _, _, .int (nI (gpL V dd 0).1), _, .int (nI (0 + 1)), _]) rfl ?_
        refine lX11_group (by decide) hV hpl hrn hrn5 hr0 hdd2 w ?_ (rn - 1) 0 (by omega)
        refine k_iload_n eX11_group_103 rfl ?_
        refine k_if_ne 112 eX11_group_104 (by decide) (fun c_104 => ?_) (fun c_104 => ?_)
        · refine k_iload_n eX11_group_112 rfl ?_
          refine k_ireturn eX11_group_113 rfl rfl ?_
          exact ⟨by rw [aGrp, if_pos ⟨c_4, c_13⟩, if_neg (by omega), if_neg c_34, ix_nI (by omega), if_neg c_104], _, rfl, Frm.rf S⟩
        refine k_iload eX11_group_107 rfl ?_
        refine k_goto 113 eX11_group_109 (by decide) ?_
        refine k_ireturn eX11_group_113 rfl rfl ?_
        exact ⟨by rw [aGrp, if_pos ⟨c_4, c_13⟩, if_neg (by omega), if_neg c_34, ix_nI (by omega), if_pos c_104], _, rfl, Frm.rf S⟩
      refine k_aload_n eX11_group_37 rfl ?_
      refine k_iload_n eX11_group_38 rfl ?_
      refine cV1 (M' := MX11_fairestOn) eX11_group_39 mX11_265 wX11_fairestOn vX11_fairestOn ⟨_, _, _, rfl, rfl, rfl⟩ rfl (pX11_fairestOn (S := S) (V := V) (dn := dn) (rn := rn) (wk := wk) (dd := dd) hV hdn hcd hpl hrn hrn5 hr0 hwk hwk1 hwk6 hdd2) (by decide) (Nat.le_of_ble_eq_true rfl) ?_
      refine k_ireturn eX11_group_42 rfl rfl ?_
      exact ⟨by rw [aGrp, if_pos ⟨c_4, c_13⟩, if_neg (by omega), if_pos (by first | exact c_34 | exact Decidable.not_not.mp c_34), ix_nI (by omega)], _, rfl, (Frm.rf S).sa (by decide) _⟩
    refine k_bipush (v := (-5)) eX11_group_29 (by decide) ?_
    refine k_ireturn eX11_group_31 rfl rfl ?_
    exact ⟨by rw [aGrp, if_pos ⟨c_4, c_13⟩, if_pos (by omega)], _, rfl, Frm.rf S⟩
  refine k_ldc eX11_group_16 kX11_168 rfl ?_
  refine k_ireturn eX11_group_18 rfl rfl ?_
  exact ⟨by rw [aGrp, if_neg (fun q => by first | exact c_4 q.1 | exact c_13 q.2)], _, rfl, Frm.rf S⟩
