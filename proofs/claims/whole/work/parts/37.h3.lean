theorem dec1 {a : Nat} (h : 0 < a) : nI a + Int32.ofInt (-1) = nI (a - 1) := by
  have e : nI a - nI 1 = nI (a - 1) := pk_sub h
  rw [← e, Int32.sub_eq_add_neg, show -nI 1 = Int32.ofInt (-1) from by decide]
theorem nz64 {n : Nat} (h0 : 0 < n) (h : n < 2 ^ 31) : (nI n).toInt64 ≠ 0 := by
  intro e
  have q := congrArg Int64.toInt e
  rw [Int32.toInt_toInt64, nI_toInt h] at q
  have : (0 : Int64).toInt = 0 := by decide
  omega
/-- one more than the last day that counts; 0: none -/
def lsN (V : k_V) : Nat → Nat
  | 0 => 0
  | n + 1 => max (lsN V n) (cN V n + 1)
theorem lsN_le {V : k_V} {dn : Nat} (h : CntOk V dn) : ∀ n, n ≤ dn → lsN V n ≤ 120
  | 0, _ => Nat.zero_le _
  | n + 1, hn => by have := lsN_le h n (by omega); have := (h.2 n (by omega)).2; rw [lsN]; omega
theorem lstD_eq {V : k_V} {dn : Nat} (h : CntOk V dn) : ∀ n, n ≤ dn → lstD (V 7) n = if lsN V n = 0 then -1 else nI (lsN V n - 1)
  | 0, _ => rfl
  | n + 1, hn => by
    have hc := h.2 n (by omega)
    have hl := lsN_le h n (by omega)
    rw [lstD, lstD_eq h n (by omega), hc.1, lsN, if_neg (by omega : ¬ max (lsN V n) (cN V n + 1) = 0)]
    by_cases q : lsN V n = 0
    · rw [if_pos q, q, mx, if_pos, show max 0 (cN V n + 1) - 1 = cN V n by omega]
      rw [Int32.lt_iff_toInt_lt, nI_toInt (by omega), show (-1 : Int32).toInt = -1 from by decide]; omega
    · rw [if_neg q, mx_nI (by omega) (by omega)]; congr 1; omega
theorem lstD_lt {V : k_V} {dn : Nat} (h : CntOk V dn) : ∀ j, j ≤ 120 → (lstD (V 7) dn < nI j ↔ lsN V dn ≤ j) := by
  intro j hj
  have hl := lsN_le h dn (Nat.le_refl _)
  rw [lstD_eq h dn (Nat.le_refl _)]
  by_cases q : lsN V dn = 0
  · rw [if_pos q, Int32.lt_iff_toInt_lt, nI_toInt (by omega), show (-1 : Int32).toInt = -1 from by decide]; omega
  · rw [if_neg q, nI_ltI (by omega) (by omega)]; omega
theorem lstD_at {V : k_V} {dn : Nat} (h : CntOk V dn) (h0 : 0 < lsN V dn) : lstD (V 7) dn = nI (lsN V dn - 1) := by
  rw [lstD_eq h dn (Nat.le_refl _), if_neg (by omega)]
def yrs (V : k_V) (dn r : Nat) (T : List Int32) (lo : Nat) (seed : Int32) (n : Nat) : Int32 × Int32 × Int64 := ys (bg V r (lsN V dn)) (fun i => nI (rsk V dn r T i)) lo seed n
set_option maxHeartbeats 400000 in
theorem lX4_inYears0 {d : Nat} {Po : Option Value → k_H → Prop} (hdd : 2 ≤ d) {S : k_S} {r n0 y lo : Nat} {seed : Int32} {bgf rkf : Nat → Int32} {q0 : Int32 × Int32 × Int64} (hlo : S.1 1907 = nI lo) (hlo2 : lo ≤ 60) (h49 : ∀ i, i < 120 → S.2.1 49 i = rkf i) (h51 : ∀ i, i < 120 → S.2.1 51 i = bgf i) (kx : AW none MX4_inYears d 0 0 121 [.ref 38, .int (nI r), .int (seed), .int (nI n0), .int (nI 0), .int ((yd bgf rkf lo q0 120).1), .int ((yd bgf rkf lo q0 120).2.1), .long ((yd bgf rkf lo q0 120).2.2.1), .null, .int (nI y), .int (nI ((yd bgf rkf lo q0 120).2.2.2)), .int (nI 120)] [] (hp S) Po) : ∀ (n j : Nat), j + n = 120 → AW none MX4_inYears d 0 0 44 [.ref 38, .int (nI r), .int (seed), .int (nI n0), .int (nI 0), .int ((yd bgf rkf lo q0 j).1), .int ((yd bgf rkf lo q0 j).2.1), .long ((yd bgf rkf lo q0 j).2.2.1), .null, .int (nI y), .int (nI ((yd bgf rkf lo q0 j).2.2.2)), .int (nI j)] [] (hp S) Po := by
  intro n
  induction n with
  | zero =>
    intro j hj
    rw [show j = 120 by omega]
    refine k_iload eX4_inYears_44 rfl ?_
    refine k_bipush (v := nI 120) eX4_inYears_46 (by decide) ?_
    refine k_icmp_geN 121 eX4_inYears_48 (by decide) (by omega) (by omega) (fun c_48 => ?_) (fun c_48 => by exfalso; omega)
    exact kx
  | succ n ih =>
    intro j hj
    have hyl := yd_le (bgf := bgf) (rk := rkf) (q := q0) hlo2 j
    refine k_iload eX4_inYears_44 rfl ?_
    refine k_bipush (v := nI 120) eX4_inYears_46 (by decide) ?_
    refine k_icmp_geN 121 eX4_inYears_48 (by decide) (by omega) (by omega) (fun c_48 => by exfalso; omega) (fun c_48 => ?_)
    refine k_iload eX4_inYears_51 rfl ?_
    refine k_if_leN 62 eX4_inYears_53 (by decide) (by omega) (fun c_53 => ?_) (fun c_53 => ?_)
    · refine k_lload eX4_inYears_62 rfl ?_
      refine k_aload_n eX4_inYears_64 rfl ?_
      refine GX4_38 eX4_inYears_65 rfl ?_
      refine k_iload eX4_inYears_68 rfl ?_
      refine cN1 (M' := MX11_read) eX4_inYears_70 mX4_79 wX11_read sX11_read rfl (pX11_readN (j := j) (ar51 _) (by omega) (by decide)) (by omega) (Nat.le_of_ble_eq_true rfl) ?_
      refine k_topi ((bgf j)) (h51 j (by omega)) ?_
      refine k_i2l eX4_inYears_73 ?_
      refine k_ladd eX4_inYears_74 ?_
      refine k_lstore (L2 := [_, _, _, _, _, _, _, _, _, _, _, _]) eX4_inYears_75 (Nat.le_of_ble_eq_true rfl) rfl ?_
      refine k_iload eX4_inYears_77 rfl ?_
      refine k_ldc eX4_inYears_79 kX4_144 rfl ?_
      refine k_topi (nI 1103515245) (by decide) ?_
      refine k_imul eX4_inYears_81 ?_
      refine k_sipush (v := nI 12345) eX4_inYears_82 (by decide) ?_
      refine k_iadd eX4_inYears_85 ?_
      refine k_topi ((rndz (yd bgf rkf lo q0 j).1)) rfl ?_
      refine k_istore (L2 := [_, _, _, _, _, _, _, _, _, _, _, _]) eX4_inYears_86 (Nat.le_of_ble_eq_true rfl) rfl ?_
      refine k_iload eX4_inYears_88 rfl ?_
      refine k_bipush (v := nI 8) eX4_inYears_90 (by decide) ?_
      refine k_iushr eX4_inYears_92 ?_
      refine k_sipush (v := nI 1000) eX4_inYears_93 (by decide) ?_
      refine k_irem eX4_inYears_96 (by decide) ?_
      refine k_topi ((rndv (rndz (yd bgf rkf lo q0 j).1))) rfl ?_
      refine k_aload_n eX4_inYears_97 rfl ?_
      refine k_iload eX4_inYears_98 rfl ?_
      refine cV1 (M' := MX4_riskOn) eX4_inYears_100 mX4_87 wX4_riskOn vX4_riskOn ⟨_, _, _, rfl, rfl, rfl⟩ rfl (pX4_riskOn (S := S) (j := j) (by omega)) (by omega) (Nat.le_of_ble_eq_true rfl) ?_
      refine k_topi ((rkf j)) (h49 j (by omega)) ?_
      refine k_icmp_ge 115 eX4_inYears_103 (by decide) (fun c_103 => ?_) (fun c_103 => ?_)
      · refine k_iincN (g := 1) (a := j) (L2 := [_, _, _, _, _, _, _, _, _, _, _, _]) eX4_inYears_115 (Nat.le_of_ble_eq_true rfl) rfl rfl ?_
        refine k_goto 44 eX4_inYears_118 (by decide) ?_
        have q := ih (j + 1) (by omega)
        rw [yd] at q
        first | (rw [if_pos c_53] at q; exact q) | (rw [if_neg (by omega), if_pos (Int32.not_le.mp c_103)] at q; exact q) | (rw [if_neg (by omega), if_neg (Int32.not_lt.mpr c_103)] at q; rw [show (yd bgf rkf lo q0 j).2.2.2 = 0 by omega]; exact q)
      refine k_iinc (v := (yd bgf rkf lo q0 j).2.1 + 1) (L2 := [_, _, _, _, _, _, _, _, _, _, _, _]) eX4_inYears_106 (Nat.le_of_ble_eq_true rfl) rfl rfl rfl ?_
      refine k_aload_n eX4_inYears_109 rfl ?_
      refine GX4_24 eX4_inYears_110 rfl ?_
      refine k_topi (nI lo) hlo ?_
      refine k_istore (L2 := [_, _, _, _, _, _, _, _, _, _, _, _]) eX4_inYears_113 (Nat.le_of_ble_eq_true rfl) rfl ?_
      refine k_iincN (g := 1) (a := j) (L2 := [_, _, _, _, _, _, _, _, _, _, _, _]) eX4_inYears_115 (Nat.le_of_ble_eq_true rfl) rfl rfl ?_
      refine k_goto 44 eX4_inYears_118 (by decide) ?_
      have q := ih (j + 1) (by omega)
      rw [yd] at q
      first | (rw [if_pos c_53] at q; exact q) | (rw [if_neg (by omega), if_pos (Int32.not_le.mp c_103)] at q; exact q) | (rw [if_neg (by omega), if_neg (Int32.not_lt.mpr c_103)] at q; rw [show (yd bgf rkf lo q0 j).2.2.2 = 0 by omega]; exact q)
    refine k_iinc (v := nI ((yd bgf rkf lo q0 j).2.2.2 - 1)) (L2 := [_, _, _, _, _, _, _, _, _, _, _, _]) eX4_inYears_56 (Nat.le_of_ble_eq_true rfl) rfl (dec1 c_53) rfl ?_
    refine k_goto 115 eX4_inYears_59 (by decide) ?_
    refine k_iincN (g := 1) (a := j) (L2 := [_, _, _, _, _, _, _, _, _, _, _, _]) eX4_inYears_115 (Nat.le_of_ble_eq_true rfl) rfl rfl ?_
    refine k_goto 44 eX4_inYears_118 (by decide) ?_
    have q := ih (j + 1) (by omega)
    rw [yd] at q
    first | (rw [if_pos c_53] at q; exact q) | (rw [if_neg (by omega), if_pos (Int32.not_le.mp c_103)] at q; exact q) | (rw [if_neg (by omega), if_neg (Int32.not_lt.mpr c_103)] at q; rw [show (yd bgf rkf lo q0 j).2.2.2 = 0 by omega]; exact q)
set_option maxHeartbeats 400000 in
theorem oX4_inYears0 {d : Nat} {Po : Option Value → k_H → Prop} (hdd : 2 ≤ d) {S : k_S} {r n0 lo : Nat} {seed : Int32} {bgf rkf : Nat → Int32} (hlo : S.1 1907 = nI lo) (hlo2 : lo ≤ 60) (h49 : ∀ i, i < 120 → S.2.1 49 i = rkf i) (h51 : ∀ i, i < 120 → S.2.1 51 i = bgf i) (hn1 : 1 ≤ n0) (hn50 : n0 ≤ 50) (kx : AW none MX4_inYears d 0 0 127 [.ref 38, .int (nI r), .int (seed), .int (nI n0), .int (nI 0), .int ((ys bgf rkf lo seed n0).1), .int ((ys bgf rkf lo seed n0).2.1), .long ((ys bgf rkf lo seed n0).2.2), .null, .int (nI n0), .null, .null] [] (hp S) Po) : ∀ (n j : Nat), j + n = n0 → AW none MX4_inYears d 0 0 32 [.ref 38, .int (nI r), .int (seed), .int (nI n0), .int (nI 0), .int ((ys bgf rkf lo seed j).1), .int ((ys bgf rkf lo seed j).2.1), .long ((ys bgf rkf lo seed j).2.2), .null, .int (nI j), .null, .null] [] (hp S) Po := by
  intro n
  induction n with
  | zero =>
    intro j hj
    rw [show j = n0 by omega]
    refine k_iload eX4_inYears_32 rfl ?_
    refine k_iload_n eX4_inYears_34 rfl ?_
    refine k_icmp_geN 127 eX4_inYears_35 (by decide) (by omega) (by omega) (fun c_35 => ?_) (fun c_35 => by exfalso; omega)
    exact kx
  | succ n ih =>
    intro j hj
    refine k_iload eX4_inYears_32 rfl ?_
    refine k_iload_n eX4_inYears_34 rfl ?_
    refine k_icmp_geN 127 eX4_inYears_35 (by decide) (by omega) (by omega) (fun c_35 => by exfalso; omega) (fun c_35 => ?_)
    refine k_iconst (v := nI 0) eX4_inYears_38 (by decide) ?_
    refine k_istore (L2 := [_, _, _, _, _, _, _, _, _, _, _, _]) eX4_inYears_39 (Nat.le_of_ble_eq_true rfl) rfl ?_
    refine k_iconst (v := nI 0) eX4_inYears_41 (by decide) ?_
    refine k_istore (L2 := [_, _, _, _, _, _, _, _, _, _, _, _]) eX4_inYears_42 (Nat.le_of_ble_eq_true rfl) rfl ?_
    have hQ : ∃ Q, yd bgf rkf lo (ys bgf rkf lo seed j) 120 = Q := ⟨_, rfl⟩
    obtain ⟨Q, hQ⟩ := hQ
    have hq0 : yd bgf rkf lo (ys bgf rkf lo seed j) 0 = ((ys bgf rkf lo seed j).1, (ys bgf rkf lo seed j).2.1, (ys bgf rkf lo seed j).2.2, 0) := by rw [yd]
    have hin := lX4_inYears0 (d := d) (Po := Po) (by omega) (n0 := n0) (r := r) (seed := seed) (y := j) (q0 := (ys bgf rkf lo seed j)) hlo hlo2 h49 h51
    rw [hQ] at hin
    refine hin ?_ 120 0 (by omega)
    refine k_iincN (g := 1) (a := j) (L2 := [_, _, _, _, _, _, _, _, _, _, _, _]) eX4_inYears_121 (Nat.le_of_ble_eq_true rfl) rfl rfl ?_
    refine k_goto 32 eX4_inYears_124 (by decide) ?_
    refine k_forget 10 (L2 := [_, _, _, _, _, _, _, _, _, _, _, _]) rfl ?_
    refine k_forget 11 (L2 := [_, _, _, _, _, _, _, _, _, _, _, _]) rfl ?_
    have q := ih (j + 1) (by omega)
    rw [ys_s, hQ] at q
    exact q
set_option maxHeartbeats 400000 in
theorem pX4_inYears0 {S : k_S} {V : k_V} (hV : vC S = V) {dn : Nat} (hdn : S.1 1302 = nI dn) (hcd : CntOk V dn) (hpl : PlanOk V) {r n0 lo : Nat} (hr : r < 5) (hn1 : 1 ≤ n0) (hn50 : n0 ≤ 50) (seed : Int32) {T : List Int32} (hT : TxOk S 1951 40 T) (hlo : S.1 1907 = nI lo) (hlo2 : lo ≤ 60) : Sp 5 0 0 MX4_inYears [.ref 38, .int (nI r), .int (seed), .int (nI n0), .int (nI 0)] (hp S) (Rx (some (.int ((yrs V dn r T lo seed n0).2.1))) (fun S' => Frm [1953, 2103, 2253] [41, 44, 47, 48, 49, 50, 51] [] S S')) := by
  refine Sp_of (by decide +kernel) (Nat.le_of_ble_eq_true rfl) ?_
  show AW none MX4_inYears 5 0 0 0 [.ref 38, .int (nI r), .int (seed), .int (nI n0), .int (nI 0), .null, .null, .null, .null, .null, .null, .null] [] (hp S) _
  refine k_aload_n eX4_inYears_0 rfl ?_
  refine k_iload_n eX4_inYears_1 rfl ?_
  refine k_bipush (v := nI 119) eX4_inYears_2 (by decide) ?_
  refine cVX0 (v := .null) (M' := MX4_readRisks) eX4_inYears_4 mX4_123 wX4_readRisks vX4_readRisks ⟨_, _, _, rfl, rfl, rfl⟩ rfl (pX4_readRisks (S := S) (V := V) (dn := dn) (r := r) (la := 119) (T := T) hV hdn hcd hpl (by omega) (by omega) hT) (by decide) (Nat.le_of_ble_eq_true rfl) ?_
  rintro S2 ⟨h49, h50, f2⟩
  have hV2 : vC S2 = V := (f2.V (by decide)).trans hV
  have hlo2a : S2.1 1907 = nI lo := (f2.1 1907 (by decide)).trans hlo
  have hdn2 : S2.1 1302 = nI dn := (f2.1 1302 (by decide)).trans hdn
  refine k_aload_n eX4_inYears_7 rfl ?_
  refine k_iload_n eX4_inYears_8 rfl ?_
  refine k_aload_n eX4_inYears_9 rfl ?_
  refine GX4_53 eX4_inYears_10 rfl ?_
  refine cV1 (M' := MX5_last) eX4_inYears_13 mX4_140 wX5_last vX5_last ⟨_, _, _, rfl, rfl, rfl⟩ rfl (pX5_last (S := S2) (dn := dn) hdn2 hcd.1) (by decide) (Nat.le_of_ble_eq_true rfl) ?_
  refine k_topi ((lstD (V 7) dn)) (by rw [show S2.2.1 27 = V 7 from congrFun hV2 7]) ?_
  refine cV1 (M' := MX4_readBrings) eX4_inYears_16 mX4_126 wX4_readBrings vX4_readBrings ⟨_, _, _, rfl, rfl, rfl⟩ rfl (pX4_readBrings (S := S2) (V := V) (r := r) (n0 := lsN V dn) (t := lstD (V 7) dn) hV2 hpl (by omega) (lsN_le hcd dn (Nat.le_refl _)) (lstD_lt hcd) (lstD_at hcd)) (by decide) (Nat.le_of_ble_eq_true rfl) ?_
  refine k_pop eX4_inYears_19 rfl ?_
  refine k_iload_n eX4_inYears_20 rfl ?_
  refine k_istore (L2 := [_, _, _, _, _, _, _, _, _, _, _, _]) eX4_inYears_21 (Nat.le_of_ble_eq_true rfl) rfl ?_
  refine k_iconst (v := nI 0) eX4_inYears_23 (by decide) ?_
  refine k_istore (L2 := [_, _, _, _, _, _, _, _, _, _, _, _]) eX4_inYears_24 (Nat.le_of_ble_eq_true rfl) rfl ?_
  refine k_lconst (v := 0) eX4_inYears_26 rfl ?_
  refine k_lstore (L2 := [_, _, _, _, _, _, _, _, _, _, _, _]) eX4_inYears_27 (Nat.le_of_ble_eq_true rfl) rfl ?_
  refine k_iconst (v := nI 0) eX4_inYears_29 (by decide) ?_
  refine k_istore (L2 := [_, _, _, _, _, _, _, _, _, _, _, _]) eX4_inYears_30 (Nat.le_of_ble_eq_true rfl) rfl ?_
  obtain ⟨U, hU⟩ : ∃ U, (sa S2 51 (fillN (bg V r (lsN V dn)) ((S2).2.1 51) 120)) = U := ⟨_, rfl⟩
  have u49 : ∀ i, i < 120 → U.2.1 49 i = (fun i => nI (rsk V dn r T i)) i := by rw [← hU]; exact h49
  have u51 : ∀ i, i < 120 → U.2.1 51 i = bg V r (lsN V dn) i := by
    rw [← hU, sa_at]
    intro i hi
    rw [fillN_at, if_pos hi]
  have ulo : U.1 1907 = nI lo := by rw [← hU]; exact hlo2a
  have uF : Frm [1953, 2103, 2253] [41, 44, 47, 48, 49, 50, 51] [] S U := by rw [← hU]; exact f2.sa (by decide) _
  rw [hU]
  refine oX4_inYears0 (by decide) (bgf := bg V r (lsN V dn)) (rkf := (fun i => nI (rsk V dn r T i))) ulo hlo2 u49 u51 hn1 hn50 ?_ n0 0 (by omega)
  refine k_iload eX4_inYears_127 rfl ?_
  refine k_if_neN 135 eX4_inYears_129 (by decide) (by omega) (fun c_129 => by exfalso; omega) (fun c_129 => ?_)
  refine k_iload eX4_inYears_132 rfl ?_
  refine k_ireturn eX4_inYears_134 rfl rfl ?_
  exact ⟨rfl, U, rfl, uF⟩
set_option maxHeartbeats 400000 in
theorem lX4_inYears1 {d : Nat} {Po : Option Value → k_H → Prop} (hdd : 2 ≤ d) {S : k_S} {r n0 y lo : Nat} {seed : Int32} {bgf rkf : Nat → Int32} {q0 : Int32 × Int32 × Int64} (hlo : S.1 1907 = nI lo) (hlo2 : lo ≤ 60) (h49 : ∀ i, i < 120 → S.2.1 49 i = rkf i) (h51 : ∀ i, i < 120 → S.2.1 51 i = bgf i) (kx : AW none MX4_inYears d 0 0 121 [.ref 38, .int (nI r), .int (seed), .int (nI n0), .int (nI 1), .int ((yd bgf rkf lo q0 120).1), .int ((yd bgf rkf lo q0 120).2.1), .long ((yd bgf rkf lo q0 120).2.2.1), .null, .int (nI y), .int (nI ((yd bgf rkf lo q0 120).2.2.2)), .int (nI 120)] [] (hp S) Po) : ∀ (n j : Nat), j + n = 120 → AW none MX4_inYears d 0 0 44 [.ref 38, .int (nI r), .int (seed), .int (nI n0), .int (nI 1), .int ((yd bgf rkf lo q0 j).1), .int ((yd bgf rkf lo q0 j).2.1), .long ((yd bgf rkf lo q0 j).2.2.1), .null, .int (nI y), .int (nI ((yd bgf rkf lo q0 j).2.2.2)), .int (nI j)] [] (hp S) Po := by
  intro n
  induction n with
  | zero =>
    intro j hj
    rw [show j = 120 by omega]
    refine k_iload eX4_inYears_44 rfl ?_
    refine k_bipush (v := nI 120) eX4_inYears_46 (by decide) ?_
    refine k_icmp_geN 121 eX4_inYears_48 (by decide) (by omega) (by omega) (fun c_48 => ?_) (fun c_48 => by exfalso; omega)
    exact kx
  | succ n ih =>
    intro j hj
    have hyl := yd_le (bgf := bgf) (rk := rkf) (q := q0) hlo2 j
    refine k_iload eX4_inYears_44 rfl ?_
    refine k_bipush (v := nI 120) eX4_inYears_46 (by decide) ?_
    refine k_icmp_geN 121 eX4_inYears_48 (by decide) (by omega) (by omega) (fun c_48 => by exfalso; omega) (fun c_48 => ?_)
    refine k_iload eX4_inYears_51 rfl ?_
    refine k_if_leN 62 eX4_inYears_53 (by decide) (by omega) (fun c_53 => ?_) (fun c_53 => ?_)
    · refine k_lload eX4_inYears_62 rfl ?_
      refine k_aload_n eX4_inYears_64 rfl ?_
      refine GX4_38 eX4_inYears_65 rfl ?_
      refine k_iload eX4_inYears_68 rfl ?_
      refine cN1 (M' := MX11_read) eX4_inYears_70 mX4_79 wX11_read sX11_read rfl (pX11_readN (j := j) (ar51 _) (by omega) (by decide)) (by omega) (Nat.le_of_ble_eq_true rfl) ?_
      refine k_topi ((bgf j)) (h51 j (by omega)) ?_
      refine k_i2l eX4_inYears_73 ?_
      refine k_ladd eX4_inYears_74 ?_
      refine k_lstore (L2 := [_, _, _, _, _, _, _, _, _, _, _, _]) eX4_inYears_75 (Nat.le_of_ble_eq_true rfl) rfl ?_
      refine k_iload eX4_inYears_77 rfl ?_
      refine k_ldc eX4_inYears_79 kX4_144 rfl ?_
      refine k_topi (nI 1103515245) (by decide) ?_
      refine k_imul eX4_inYears_81 ?_
      refine k_sipush (v := nI 12345) eX4_inYears_82 (by decide) ?_
      refine k_iadd eX4_inYears_85 ?_
      refine k_topi ((rndz (yd bgf rkf lo q0 j).1)) rfl ?_
      refine k_istore (L2 := [_, _, _, _, _, _, _, _, _, _, _, _]) eX4_inYears_86 (Nat.le_of_ble_eq_true rfl) rfl ?_
      refine k_iload eX4_inYears_88 rfl ?_
      refine k_bipush (v := nI 8) eX4_inYears_90 (by decide) ?_
      refine k_iushr eX4_inYears_92 ?_
      refine k_sipush (v := nI 1000) eX4_inYears_93 (by decide) ?_
      refine k_irem eX4_inYears_96 (by decide) ?_
      refine k_topi ((rndv (rndz (yd bgf rkf lo q0 j).1))) rfl ?_
      refine k_aload_n eX4_inYears_97 rfl ?_
      refine k_iload eX4_inYears_98 rfl ?_
      refine cV1 (M' := MX4_riskOn) eX4_inYears_100 mX4_87 wX4_riskOn vX4_riskOn ⟨_, _, _, rfl, rfl, rfl⟩ rfl (pX4_riskOn (S := S) (j := j) (by omega)) (by omega) (Nat.le_of_ble_eq_true rfl) ?_
      refine k_topi ((rkf j)) (h49 j (by omega)) ?_
      refine k_icmp_ge 115 eX4_inYears_103 (by decide) (fun c_103 => ?_) (fun c_103 => ?_)
      · refine k_iincN (g := 1) (a := j) (L2 := [_, _, _, _, _, _, _, _, _, _, _, _]) eX4_inYears_115 (Nat.le_of_ble_eq_true rfl) rfl rfl ?_
        refine k_goto 44 eX4_inYears_118 (by decide) ?_
        have q := ih (j + 1) (by omega)
        rw [yd] at q
        first | (rw [if_pos c_53] at q; exact q) | (rw [if_neg (by omega), if_pos (Int32.not_le.mp c_103)] at q; exact q) | (rw [if_neg (by omega), if_neg (Int32.not_lt.mpr c_103)] at q; rw [show (yd bgf rkf lo q0 j).2.2.2 = 0 by omega]; exact q)
      refine k_iinc (v := (yd bgf rkf lo q0 j).2.1 + 1) (L2 := [_, _, _, _, _, _, _, _, _, _, _, _]) eX4_inYears_106 (Nat.le_of_ble_eq_true rfl) rfl rfl rfl ?_
      refine k_aload_n eX4_inYears_109 rfl ?_
      refine GX4_24 eX4_inYears_110 rfl ?_
      refine k_topi (nI lo) hlo ?_
      refine k_istore (L2 := [_, _, _, _, _, _, _, _, _, _, _, _]) eX4_inYears_113 (Nat.le_of_ble_eq_true rfl) rfl ?_
      refine k_iincN (g := 1) (a := j) (L2 := [_, _, _, _, _, _, _, _, _, _, _, _]) eX4_inYears_115 (Nat.le_of_ble_eq_true rfl) rfl rfl ?_
      refine k_goto 44 eX4_inYears_118 (by decide) ?_
      have q := ih (j + 1) (by omega)
      rw [yd] at q
      first | (rw [if_pos c_53] at q; exact q) | (rw [if_neg (by omega), if_pos (Int32.not_le.mp c_103)] at q; exact q) | (rw [if_neg (by omega), if_neg (Int32.not_lt.mpr c_103)] at q; rw [show (yd bgf rkf lo q0 j).2.2.2 = 0 by omega]; exact q)
    refine k_iinc (v := nI ((yd bgf rkf lo q0 j).2.2.2 - 1)) (L2 := [_, _, _, _, _, _, _, _, _, _, _, _]) eX4_inYears_56 (Nat.le_of_ble_eq_true rfl) rfl (dec1 c_53) rfl ?_
    refine k_goto 115 eX4_inYears_59 (by decide) ?_
    refine k_iincN (g := 1) (a := j) (L2 := [_, _, _, _, _, _, _, _, _, _, _, _]) eX4_inYears_115 (Nat.le_of_ble_eq_true rfl) rfl rfl ?_
    refine k_goto 44 eX4_inYears_118 (by decide) ?_
    have q := ih (j + 1) (by omega)
    rw [yd] at q
    first | (rw [if_pos c_53] at q; exact q) | (rw [if_neg (by omega), if_pos (Int32.not_le.mp c_103)] at q; exact q) | (rw [if_neg (by omega), if_neg (Int32.not_lt.mpr c_103)] at q; rw [show (yd bgf rkf lo q0 j).2.2.2 = 0 by omega]; exact q)
set_option maxHeartbeats 400000 in
theorem oX4_inYears1 {d : Nat} {Po : Option Value → k_H → Prop} (hdd : 2 ≤ d) {S : k_S} {r n0 lo : Nat} {seed : Int32} {bgf rkf : Nat → Int32} (hlo : S.1 1907 = nI lo) (hlo2 : lo ≤ 60) (h49 : ∀ i, i < 120 → S.2.1 49 i = rkf i) (h51 : ∀ i, i < 120 → S.2.1 51 i = bgf i) (hn1 : 1 ≤ n0) (hn50 : n0 ≤ 50) (kx : AW none MX4_inYears d 0 0 127 [.ref 38, .int (nI r), .int (seed), .int (nI n0), .int (nI 1), .int ((ys bgf rkf lo seed n0).1), .int ((ys bgf rkf lo seed n0).2.1), .long ((ys bgf rkf lo seed n0).2.2), .null, .int (nI n0), .null, .null] [] (hp S) Po) : ∀ (n j : Nat), j + n = n0 → AW none MX4_inYears d 0 0 32 [.ref 38, .int (nI r), .int (seed), .int (nI n0), .int (nI 1), .int ((ys bgf rkf lo seed j).1), .int ((ys bgf rkf lo seed j).2.1), .long ((ys bgf rkf lo seed j).2.2), .null, .int (nI j), .null, .null] [] (hp S) Po := by
  intro n
  induction n with
  | zero =>
    intro j hj
    rw [show j = n0 by omega]
    refine k_iload eX4_inYears_32 rfl ?_
    refine k_iload_n eX4_inYears_34 rfl ?_
    refine k_icmp_geN 127 eX4_inYears_35 (by decide) (by omega) (by omega) (fun c_35 => ?_) (fun c_35 => by exfalso; omega)
    exact kx
  | succ n ih =>
    intro j hj
    refine k_iload eX4_inYears_32 rfl ?_
    refine k_iload_n eX4_inYears_34 rfl ?_
    refine k_icmp_geN 127 eX4_inYears_35 (by decide) (by omega) (by omega) (fun c_35 => by exfalso; omega) (fun c_35 => ?_)
    refine k_iconst (v := nI 0) eX4_inYears_38 (by decide) ?_
    refine k_istore (L2 := [_, _, _, _, _, _, _, _, _, _, _, _]) eX4_inYears_39 (Nat.le_of_ble_eq_true rfl) rfl ?_
    refine k_iconst (v := nI 0) eX4_inYears_41 (by decide) ?_
    refine k_istore (L2 := [_, _, _, _, _, _, _, _, _, _, _, _]) eX4_inYears_42 (Nat.le_of_ble_eq_true rfl) rfl ?_
    have hQ : ∃ Q, yd bgf rkf lo (ys bgf rkf lo seed j) 120 = Q := ⟨_, rfl⟩
    obtain ⟨Q, hQ⟩ := hQ
    have hq0 : yd bgf rkf lo (ys bgf rkf lo seed j) 0 = ((ys bgf rkf lo seed j).1, (ys bgf rkf lo seed j).2.1, (ys bgf rkf lo seed j).2.2, 0) := by rw [yd]
    have hin := lX4_inYears1 (d := d) (Po := Po) (by omega) (n0 := n0) (r := r) (seed := seed) (y := j) (q0 := (ys bgf rkf lo seed j)) hlo hlo2 h49 h51
    rw [hQ] at hin
    refine hin ?_ 120 0 (by omega)
    refine k_iincN (g := 1) (a := j) (L2 := [_, _, _, _, _, _, _, _, _, _, _, _]) eX4_inYears_121 (Nat.le_of_ble_eq_true rfl) rfl rfl ?_
    refine k_goto 32 eX4_inYears_124 (by decide) ?_
    refine k_forget 10 (L2 := [_, _, _, _, _, _, _, _, _, _, _, _]) rfl ?_
    refine k_forget 11 (L2 := [_, _, _, _, _, _, _, _, _, _, _, _]) rfl ?_
    have q := ih (j + 1) (by omega)
    rw [ys_s, hQ] at q
    exact q
set_option maxHeartbeats 400000 in
theorem pX4_inYears1 {S : k_S} {V : k_V} (hV : vC S = V) {dn : Nat} (hdn : S.1 1302 = nI dn) (hcd : CntOk V dn) (hpl : PlanOk V) {r n0 lo : Nat} (hr : r < 5) (hn1 : 1 ≤ n0) (hn50 : n0 ≤ 50) (seed : Int32) {T : List Int32} (hT : TxOk S 1951 40 T) (hlo : S.1 1907 = nI lo) (hlo2 : lo ≤ 60) : Sp 5 0 0 MX4_inYears [.ref 38, .int (nI r), .int (seed), .int (nI n0), .int (nI 1)] (hp S) (Rx (some (.int (((yrs V dn r T lo seed n0).2.2 / (nI n0).toInt64).toInt32))) (fun S' => Frm [1953, 2103, 2253] [41, 44, 47, 48, 49, 50, 51] [] S S')) := by
  refine Sp_of (by decide +kernel) (Nat.le_of_ble_eq_true rfl) ?_
  show AW none MX4_inYears 5 0 0 0 [.ref 38, .int (nI r), .int (seed), .int (nI n0), .int (nI 1), .null, .null, .null, .null, .null, .null, .null] [] (hp S) _
  refine k_aload_n eX4_inYears_0 rfl ?_
  refine k_iload_n eX4_inYears_1 rfl ?_
  refine k_bipush (v := nI 119) eX4_inYears_2 (by decide) ?_
  refine cVX0 (v := .null) (M' := MX4_readRisks) eX4_inYears_4 mX4_123 wX4_readRisks vX4_readRisks ⟨_, _, _, rfl, rfl, rfl⟩ rfl (pX4_readRisks (S := S) (V := V) (dn := dn) (r := r) (la := 119) (T := T) hV hdn hcd hpl (by omega) (by omega) hT) (by decide) (Nat.le_of_ble_eq_true rfl) ?_
  rintro S2 ⟨h49, h50, f2⟩
  have hV2 : vC S2 = V := (f2.V (by decide)).trans hV
  have hlo2a : S2.1 1907 = nI lo := (f2.1 1907 (by decide)).trans hlo
  have hdn2 : S2.1 1302 = nI dn := (f2.1 1302 (by decide)).trans hdn
  refine k_aload_n eX4_inYears_7 rfl ?_
  refine k_iload_n eX4_inYears_8 rfl ?_
  refine k_aload_n eX4_inYears_9 rfl ?_
  refine GX4_53 eX4_inYears_10 rfl ?_
  refine cV1 (M' := MX5_last) eX4_inYears_13 mX4_140 wX5_last vX5_last ⟨_, _, _, rfl, rfl, rfl⟩ rfl (pX5_last (S := S2) (dn := dn) hdn2 hcd.1) (by decide) (Nat.le_of_ble_eq_true rfl) ?_
  refine k_topi ((lstD (V 7) dn)) (by rw [show S2.2.1 27 = V 7 from congrFun hV2 7]) ?_
  refine cV1 (M' := MX4_readBrings) eX4_inYears_16 mX4_126 wX4_readBrings vX4_readBrings ⟨_, _, _, rfl, rfl, rfl⟩ rfl (pX4_readBrings (S := S2) (V := V) (r := r) (n0 := lsN V dn) (t := lstD (V 7) dn) hV2 hpl (by omega) (lsN_le hcd dn (Nat.le_refl _)) (lstD_lt hcd) (lstD_at hcd)) (by decide) (Nat.le_of_ble_eq_true rfl) ?_
  refine k_pop eX4_inYears_19 rfl ?_
  refine k_iload_n eX4_inYears_20 rfl ?_
  refine k_istore (L2 := [_, _, _, _, _, _, _, _, _, _, _, _]) eX4_inYears_21 (Nat.le_of_ble_eq_true rfl) rfl ?_
  refine k_iconst (v := nI 0) eX4_inYears_23 (by decide) ?_
  refine k_istore (L2 := [_, _, _, _, _, _, _, _, _, _, _, _]) eX4_inYears_24 (Nat.le_of_ble_eq_true rfl) rfl ?_
  refine k_lconst (v := 0) eX4_inYears_26 rfl ?_
  refine k_lstore (L2 := [_, _, _, _, _, _, _, _, _, _, _, _]) eX4_inYears_27 (Nat.le_of_ble_eq_true rfl) rfl ?_
  refine k_iconst (v := nI 0) eX4_inYears_29 (by decide) ?_
  refine k_istore (L2 := [_, _, _, _, _, _, _, _, _, _, _, _]) eX4_inYears_30 (Nat.le_of_ble_eq_true rfl) rfl ?_
  obtain ⟨U, hU⟩ : ∃ U, (sa S2 51 (fillN (bg V r (lsN V dn)) ((S2).2.1 51) 120)) = U := ⟨_, rfl⟩
  have u49 : ∀ i, i < 120 → U.2.1 49 i = (fun i => nI (rsk V dn r T i)) i := by rw [← hU]; exact h49
  have u51 : ∀ i, i < 120 → U.2.1 51 i = bg V r (lsN V dn) i := by
    rw [← hU, sa_at]
    intro i hi
    rw [fillN_at, if_pos hi]
  have ulo : U.1 1907 = nI lo := by rw [← hU]; exact hlo2a
  have uF : Frm [1953, 2103, 2253] [41, 44, 47, 48, 49, 50, 51] [] S U := by rw [← hU]; exact f2.sa (by decide) _
  rw [hU]
  refine oX4_inYears1 (by decide) (bgf := bg V r (lsN V dn)) (rkf := (fun i => nI (rsk V dn r T i))) ulo hlo2 u49 u51 hn1 hn50 ?_ n0 0 (by omega)
  refine k_iload eX4_inYears_127 rfl ?_
  refine k_if_neN 135 eX4_inYears_129 (by decide) (by omega) (fun c_129 => ?_) (fun c_129 => by exfalso; omega)
  refine k_iload_n eX4_inYears_135 rfl ?_
  refine k_if_gtN 143 eX4_inYears_136 (by decide) (by omega) (fun c_136 => ?_) (fun c_136 => by exfalso; omega)
  refine k_lload eX4_inYears_143 rfl ?_
  refine k_iload_n eX4_inYears_145 rfl ?_
  refine k_i2l eX4_inYears_146 ?_
  refine k_ldiv eX4_inYears_147 (nz64 (by omega) (by omega)) ?_
  refine k_l2i eX4_inYears_148 ?_
  refine k_ireturn eX4_inYears_149 rfl rfl ?_
  exact ⟨rfl, U, rfl, uF⟩
