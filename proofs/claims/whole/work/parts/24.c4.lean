/-- the best of the works 1 .. n on day d: which, and its worth -/
def bs (V : k_V) (dn r d : Nat) : Nat → Nat × Int32
  | 0 => (0, nI 0)
  | n + 1 => if (bs V dn r d n).2 < wor V dn r (n + 1) d then (n + 1, wor V dn r (n + 1) d) else bs V dn r d n
theorem bs_le (V : k_V) (dn r d : Nat) : ∀ n, (bs V dn r d n).1 ≤ n
  | 0 => Nat.le_refl 0
  | n + 1 => by have := bs_le V dn r d n; rw [bs]; split <;> simp <;> omega
/-- led: of the days ahead of n the one that brings day most -/
def ld (V : k_V) (r day : Nat) : Nat → Int32 × Int32
  | 0 => (-2, nI 0)
  | n + 1 => if (ld V r day n).2 < pts V r (pw V n) (day - n) then (nI n, pts V r (pw V n) (day - n)) else ld V r day n
set_option maxHeartbeats 400000 in
theorem lX3_bestOn {d : Nat} {Po : Option Value → k_H → Prop} (hdd : 4 ≤ d) {S : k_S} {V : k_V} (hV : vC S = V) {dn : Nat} (hdn : S.1 1302 = nI dn) (hcd : CntOk V dn) {wk : Nat} (hwk : S.1 803 = nI wk) (hwk1 : 1 ≤ wk) (hwk6 : wk ≤ 6){r dd : Nat} (hr : r < 5) (hdd2 : dd < 120) (kx : AW none MX3_bestOn d 0 0 50 [.ref 29, .int (nI r), .int (nI dd), .int (nI ((bs V dn r dd ((wk - 1))).1)), .int ((bs V dn r dd ((wk - 1))).2), .int (nI ((wk - 1) + 1)), .null] [] (hp S) Po) : ∀ (n j : Nat), j + n = (wk - 1) → AW none MX3_bestOn d 0 0 8 [.ref 29, .int (nI r), .int (nI dd), .int (nI ((bs V dn r dd j).1)), .int ((bs V dn r dd j).2), .int (nI (j + 1)), .null] [] (hp S) Po := by
  intro n
  induction n with
  | zero =>
    intro j hj
    rw [show j = (wk - 1) by omega]
    refine k_iload eX3_bestOn_8 rfl ?_
    refine k_aload_n eX3_bestOn_10 rfl ?_
    refine GX3_21 eX3_bestOn_11 rfl ?_
    refine GX3_97 eX3_bestOn_14 rfl ?_
    refine k_topi (nI wk) hwk ?_
    refine k_icmp_geN 50 eX3_bestOn_17 (by decide) (by omega) (by omega) (fun c_17 => ?_) (fun c_17 => by exfalso; omega)
    exact kx
  | succ n ih =>
    intro j hj
    refine k_iload eX3_bestOn_8 rfl ?_
    refine k_aload_n eX3_bestOn_10 rfl ?_
    refine GX3_21 eX3_bestOn_11 rfl ?_
    refine GX3_97 eX3_bestOn_14 rfl ?_
    refine k_topi (nI wk) hwk ?_
    refine k_icmp_geN 50 eX3_bestOn_17 (by decide) (by omega) (by omega) (fun c_17 => by exfalso; omega) (fun c_17 => ?_)
    refine k_aload_n eX3_bestOn_20 rfl ?_
    refine k_iload_n eX3_bestOn_21 rfl ?_
    refine k_iload eX3_bestOn_22 rfl ?_
    refine k_iload_n eX3_bestOn_24 rfl ?_
    refine cV1 (M' := MX3_valueOf) eX3_bestOn_25 mX3_94 wX3_valueOf vX3_valueOf ⟨_, _, _, rfl, rfl, rfl⟩ rfl (pX3_valueOf (S := S) (V := V) (dn := dn) (r := r) (w := (j + 1)) (dd := dd) hV hdn hcd (by omega) (by omega) (by omega)) (by omega) (Nat.le_of_ble_eq_true rfl) ?_
    refine k_istore (L2 := [_, _, _, _, _, _, _]) eX3_bestOn_28 (Nat.le_of_ble_eq_true rfl) rfl ?_
    refine k_iload eX3_bestOn_30 rfl ?_
    refine k_iload eX3_bestOn_32 rfl ?_
    refine k_icmp_le 44 eX3_bestOn_34 (by decide) (fun c_34 => ?_) (fun c_34 => ?_)
    · refine k_iincN (g := 1) (a := (j + 1)) (L2 := [_, _, _, _, _, _, _]) eX3_bestOn_44 (Nat.le_of_ble_eq_true rfl) rfl rfl ?_
      refine k_goto 8 eX3_bestOn_47 (by decide) ?_
      refine k_forget 6 (L2 := [_, _, _, _, _, _, _]) rfl ?_
      have q := ih (j + 1) (by omega)
      rw [bs] at q
      first | (rw [if_neg (Int32.not_lt.mpr c_34)] at q; exact q) | (rw [if_pos (Int32.not_le.mp c_34)] at q; exact q)
    refine k_iload eX3_bestOn_37 rfl ?_
    refine k_istore (L2 := [_, _, _, _, _, _, _]) eX3_bestOn_39 (Nat.le_of_ble_eq_true rfl) rfl ?_
    refine k_iload eX3_bestOn_41 rfl ?_
    refine k_istore_n (L2 := [_, _, _, _, _, _, _]) eX3_bestOn_43 (Nat.le_of_ble_eq_true rfl) rfl ?_
    refine k_iincN (g := 1) (a := (j + 1)) (L2 := [_, _, _, _, _, _, _]) eX3_bestOn_44 (Nat.le_of_ble_eq_true rfl) rfl rfl ?_
    refine k_goto 8 eX3_bestOn_47 (by decide) ?_
    refine k_forget 6 (L2 := [_, _, _, _, _, _, _]) rfl ?_
    have q := ih (j + 1) (by omega)
    rw [bs] at q
    first | (rw [if_neg (Int32.not_lt.mpr c_34)] at q; exact q) | (rw [if_pos (Int32.not_le.mp c_34)] at q; exact q)
set_option maxHeartbeats 400000 in
theorem pX3_bestOn {S : k_S} {V : k_V} (hV : vC S = V) {dn : Nat} (hdn : S.1 1302 = nI dn) (hcd : CntOk V dn) {wk : Nat} (hwk : S.1 803 = nI wk) (hwk1 : 1 ≤ wk) (hwk6 : wk ≤ 6){r dd : Nat} (hr : r < 5) (hdd2 : dd < 120) : Sp 4 0 0 MX3_bestOn [.ref 29, .int (nI r), .int (nI dd)] (hp S) (Rt (some (.int (nI (bs V dn r dd (wk - 1)).1))) (hp S)) := by
  refine Sp_of (by decide +kernel) (Nat.le_of_ble_eq_true rfl) ?_
  show AW none MX3_bestOn 4 0 0 0 [.ref 29, .int (nI r), .int (nI dd), .null, .null, .null, .null] [] (hp S) _
  refine k_iconst (v := nI 0) eX3_bestOn_0 (by decide) ?_
  refine k_istore_n (L2 := [_, _, _, _, _, _, _]) eX3_bestOn_1 (Nat.le_of_ble_eq_true rfl) rfl ?_
  refine k_iconst (v := nI 0) eX3_bestOn_2 (by decide) ?_
  refine k_istore (L2 := [_, _, _, _, _, _, _]) eX3_bestOn_3 (Nat.le_of_ble_eq_true rfl) rfl ?_
  refine k_iconst (v := nI 1) eX3_bestOn_5 (by decide) ?_
  refine k_istore (L2 := [_, _, _, _, _, _, _]) eX3_bestOn_6 (Nat.le_of_ble_eq_true rfl) rfl ?_
  refine lX3_bestOn (by decide) hV hdn hcd hwk hwk1 hwk6 hr hdd2 ?_ ((wk - 1)) 0 (by omega)
  refine k_iload_n eX3_bestOn_50 rfl ?_
  refine k_ireturn eX3_bestOn_51 rfl rfl ?_
  exact ⟨rfl, rfl⟩
set_option maxHeartbeats 400000 in
theorem lX3_leadingDay {d : Nat} {Po : Option Value → k_H → Prop} (hdd : 3 ≤ d) {S : k_S} {V : k_V} (hV : vC S = V) (hpl : PlanOk V){r day : Nat} (hr : r < 5) (hday : day < 120) (kx : AW none MX3_leadingDay d 0 0 55 [.ref 29, .int (nI r), .int (nI day), .int ((ld V r day ((day + 1))).1), .int ((ld V r day ((day + 1))).2), .int (nI ((day + 1))), .null] [] (hp S) Po) : ∀ (n j : Nat), j + n = (day + 1) → AW none MX3_leadingDay d 0 0 9 [.ref 29, .int (nI r), .int (nI day), .int ((ld V r day j).1), .int ((ld V r day j).2), .int (nI j), .null] [] (hp S) Po := by
  intro n
  induction n with
  | zero =>
    intro j hj
    rw [show j = (day + 1) by omega]
    refine k_iload eX3_leadingDay_9 rfl ?_
    refine k_iload_n eX3_leadingDay_11 rfl ?_
    refine k_icmp_gtN 55 eX3_leadingDay_12 (by decide) (by omega) (by omega) (fun c_12 => ?_) (fun c_12 => by exfalso; omega)
    exact kx
  | succ n ih =>
    intro j hj
    refine k_iload eX3_leadingDay_9 rfl ?_
    refine k_iload_n eX3_leadingDay_11 rfl ?_
    refine k_icmp_gtN 55 eX3_leadingDay_12 (by decide) (by omega) (by omega) (fun c_12 => by exfalso; omega) (fun c_12 => ?_)
    have hpw := hpl.lt (d := j) (by omega)
    refine k_aload_n eX3_leadingDay_15 rfl ?_
    refine k_iload_n eX3_leadingDay_16 rfl ?_
    refine k_aload_n eX3_leadingDay_17 rfl ?_
    refine GX3_29 eX3_leadingDay_18 rfl ?_
    refine k_iload eX3_leadingDay_21 rfl ?_
    refine cV1 (M' := MX2_at) eX3_leadingDay_23 mX3_67 wX2_at vX2_at ⟨_, _, _, rfl, rfl, rfl⟩ rfl (pX2_at (S := S) (j := j) (by omega)) (by omega) (Nat.le_of_ble_eq_true rfl) ?_
    refine k_topi (nI (pw V j)) (vpl hV hpl (by omega)) ?_
    refine k_iload_n eX3_leadingDay_26 rfl ?_
    refine k_iload eX3_leadingDay_27 rfl ?_
    refine k_isubN eX3_leadingDay_29 (by omega) ?_
    refine cV1 (M' := MX3_brought) eX3_leadingDay_30 mX3_91 wX3_brought vX3_brought ⟨_, _, _, rfl, rfl, rfl⟩ rfl (pX3_brought (S := S) (V := V) (r := r) (w := (pw V j)) (k := (day - j)) hV (by omega) (by omega) (by omega)) (by omega) (Nat.le_of_ble_eq_true rfl) ?_
    refine k_istore (L2 := [_, _, _, _, _, _, _]) eX3_leadingDay_33 (Nat.le_of_ble_eq_true rfl) rfl ?_
    refine k_iload eX3_leadingDay_35 rfl ?_
    refine k_iload eX3_leadingDay_37 rfl ?_
    refine k_icmp_le 49 eX3_leadingDay_39 (by decide) (fun c_39 => ?_) (fun c_39 => ?_)
    · refine k_iincN (g := 1) (a := j) (L2 := [_, _, _, _, _, _, _]) eX3_leadingDay_49 (Nat.le_of_ble_eq_true rfl) rfl rfl ?_
      refine k_goto 9 eX3_leadingDay_52 (by decide) ?_
      refine k_forget 6 (L2 := [_, _, _, _, _, _, _]) rfl ?_
      have q := ih (j + 1) (by omega)
      rw [ld] at q
      first | (rw [if_neg (Int32.not_lt.mpr c_39)] at q; exact q) | (rw [if_pos (Int32.not_le.mp c_39)] at q; exact q)
    refine k_iload eX3_leadingDay_42 rfl ?_
    refine k_istore (L2 := [_, _, _, _, _, _, _]) eX3_leadingDay_44 (Nat.le_of_ble_eq_true rfl) rfl ?_
    refine k_iload eX3_leadingDay_46 rfl ?_
    refine k_istore_n (L2 := [_, _, _, _, _, _, _]) eX3_leadingDay_48 (Nat.le_of_ble_eq_true rfl) rfl ?_
    refine k_iincN (g := 1) (a := j) (L2 := [_, _, _, _, _, _, _]) eX3_leadingDay_49 (Nat.le_of_ble_eq_true rfl) rfl rfl ?_
    refine k_goto 9 eX3_leadingDay_52 (by decide) ?_
    refine k_forget 6 (L2 := [_, _, _, _, _, _, _]) rfl ?_
    have q := ih (j + 1) (by omega)
    rw [ld] at q
    first | (rw [if_neg (Int32.not_lt.mpr c_39)] at q; exact q) | (rw [if_pos (Int32.not_le.mp c_39)] at q; exact q)
set_option maxHeartbeats 400000 in
theorem pX3_leadingDay {S : k_S} {V : k_V} (hV : vC S = V) (hpl : PlanOk V){r day : Nat} (hr : r < 5) (hday : day < 120) : Sp 3 0 0 MX3_leadingDay [.ref 29, .int (nI r), .int (nI day)] (hp S) (Rt (some (.int ((ld V r day (day + 1)).1))) (hp S)) := by
  refine Sp_of (by decide +kernel) (Nat.le_of_ble_eq_true rfl) ?_
  show AW none MX3_leadingDay 3 0 0 0 [.ref 29, .int (nI r), .int (nI day), .null, .null, .null, .null] [] (hp S) _
  refine k_bipush (v := (-2)) eX3_leadingDay_0 (by decide) ?_
  refine k_istore_n (L2 := [_, _, _, _, _, _, _]) eX3_leadingDay_2 (Nat.le_of_ble_eq_true rfl) rfl ?_
  refine k_iconst (v := nI 0) eX3_leadingDay_3 (by decide) ?_
  refine k_istore (L2 := [_, _, _, _, _, _, _]) eX3_leadingDay_4 (Nat.le_of_ble_eq_true rfl) rfl ?_
  refine k_iconst (v := nI 0) eX3_leadingDay_6 (by decide) ?_
  refine k_istore (L2 := [_, _, _, _, _, _, _]) eX3_leadingDay_7 (Nat.le_of_ble_eq_true rfl) rfl ?_
  refine lX3_leadingDay (by decide) hV hpl hr hday ?_ ((day + 1)) 0 (by omega)
  refine k_iload_n eX3_leadingDay_55 rfl ?_
  refine k_ireturn eX3_leadingDay_56 rfl rfl ?_
  exact ⟨rfl, rfl⟩
/-- a row whose first n are told by g -/
def fillN (g f : Nat → Int32) : Nat → Nat → Int32
  | 0 => f
  | n + 1 => va_up (fillN g f n) n (g n)
theorem fillN_at (g f : Nat → Int32) : ∀ n j, fillN g f n j = if j < n then g j else f j
  | 0, j => by rw [if_neg (by omega)]; rfl
  | n + 1, j => by
    rw [fillN, va_up]
    by_cases h : j = n
    · subst h; rw [if_pos rfl, if_pos (by omega)]
    · rw [if_neg h, fillN_at g f n j]
      by_cases h2 : j < n
      · rw [if_pos h2, if_pos (by omega)]
      · rw [if_neg h2, if_neg (by omega)]
/-- one choice in the week from f0 on: which day (of n looked at), its worth -/
def co (C B : Nat → Int32) (f0 : Nat) : Nat → Option Nat × Int32
  | 0 => (none, nI 0)
  | n + 1 => if C (f0 + n) = 0 ∧ (co C B f0 n).2 < B (f0 + n) then (some (f0 + n), B (f0 + n)) else co C B f0 n
def oI : Option Nat → Int32
  | none => -1
  | some d => nI d
theorem co_lt (C B : Nat → Int32) (f0 : Nat) : ∀ n d, (co C B f0 n).1 = some d → d < f0 + n
  | 0, d, h => by cases h
  | n + 1, d, h => by
    rw [co] at h
    split at h
    · cases h; omega
    · have := co_lt C B f0 n d h; omega
def coN (f0 : Nat) : Nat := min 7 (120 - f0)
def coS (S : k_S) (f0 : Nat) : k_S := match (co (S.2.1 32) (S.2.1 31) f0 (coN f0)).1 with
  | none => S
  | some d => sa S 32 (va_up (S.2.1 32) d (S.2.1 30 d))
def coV (S : k_S) (f0 : Nat) : Int32 := (co (S.2.1 32) (S.2.1 31) f0 (coN f0)).2
set_option maxHeartbeats 400000 in
theorem pX3_chosenOn {S : k_S} {j : Nat} (hj : j < 120) : Sp 1 0 0 MX3_chosenOn [.ref 29, .int (nI j)] (hp S) (Rt (some (.int (S.2.1 32 j))) (hp S)) := by
  refine Sp_of (by decide +kernel) (Nat.le_of_ble_eq_true rfl) ?_
  show AW none MX3_chosenOn 1 0 0 0 [.ref 29, .int (nI j)] [] (hp S) _
  refine k_aload_n eX3_chosenOn_0 rfl ?_
  refine GX3_18 eX3_chosenOn_1 rfl ?_
  refine k_iload_n eX3_chosenOn_4 rfl ?_
  refine cN1 (M' := MX11_read) eX3_chosenOn_5 mX3_49 wX11_read sX11_read rfl (pX11_readN (j := j) (ar32 _) (by omega) (by decide)) (by decide) (Nat.le_of_ble_eq_true rfl) ?_
  refine k_ireturn eX3_chosenOn_8 rfl rfl ?_
  exact ⟨rfl, rfl⟩
set_option maxHeartbeats 400000 in
theorem lX3_chooseOne7 {d : Nat} {Po : Option Value → k_H → Prop} (hdd : 2 ≤ d) {S : k_S} {f0 : Nat} (hf0 : f0 < 120)(h7 : f0 + 7 ≤ 120) (kx : AW none MX3_chooseOne d 0 0 64 [.ref 29, .int (nI f0), .int ((co (S.2.1 32) (S.2.1 31) f0 7).2), .int ((oI (co (S.2.1 32) (S.2.1 31) f0 7).1)), .int (nI (f0 + 7))] [] (hp S) Po) : ∀ (n j : Nat), j + n = 7 → AW none MX3_chooseOne d 0 0 7 [.ref 29, .int (nI f0), .int ((co (S.2.1 32) (S.2.1 31) f0 j).2), .int ((oI (co (S.2.1 32) (S.2.1 31) f0 j).1)), .int (nI (f0 + j))] [] (hp S) Po := by
  intro n
  induction n with
  | zero =>
    intro j hj
    rw [show j = 7 by omega]
    refine k_iload eX3_chooseOne_7 rfl ?_
    refine k_iload_n eX3_chooseOne_9 rfl ?_
    refine k_bipush (v := nI 7) eX3_chooseOne_10 (by decide) ?_
    refine k_iaddN eX3_chooseOne_12 ?_
    refine k_icmp_geN 64 eX3_chooseOne_13 (by decide) (by omega) (by omega) (fun c_13 => ?_) (fun c_13 => by exfalso; omega)
    exact kx
  | succ n ih =>
    intro j hj
    refine k_iload eX3_chooseOne_7 rfl ?_
    refine k_iload_n eX3_chooseOne_9 rfl ?_
    refine k_bipush (v := nI 7) eX3_chooseOne_10 (by decide) ?_
    refine k_iaddN eX3_chooseOne_12 ?_
    refine k_icmp_geN 64 eX3_chooseOne_13 (by decide) (by omega) (by omega) (fun c_13 => by exfalso; omega) (fun c_13 => ?_)
    refine k_iload eX3_chooseOne_16 rfl ?_
    refine k_bipush (v := nI 120) eX3_chooseOne_18 (by decide) ?_
    refine k_icmp_geN 64 eX3_chooseOne_20 (by decide) (by omega) (by omega) (fun c_20 => by exfalso; omega) (fun c_20 => ?_)
    refine k_aload_n eX3_chooseOne_23 rfl ?_
    refine k_iload eX3_chooseOne_24 rfl ?_
    refine cV1 (M' := MX3_chosenOn) eX3_chooseOne_26 mX3_109 wX3_chosenOn vX3_chosenOn ⟨_, _, _, rfl, rfl, rfl⟩ rfl (pX3_chosenOn (S := S) (j := (f0 + j)) (by omega)) (by omega) (Nat.le_of_ble_eq_true rfl) ?_
    refine k_if_ne 58 eX3_chooseOne_29 (by decide) (fun c_29 => ?_) (fun c_29 => ?_)
    · refine k_iincN (g := 1) (a := (f0 + j)) (L2 := [_, _, _, _, _]) eX3_chooseOne_58 (Nat.le_of_ble_eq_true rfl) rfl rfl ?_
      refine k_goto 7 eX3_chooseOne_61 (by decide) ?_
      have q := ih (j + 1) (by omega)
      rw [co] at q
      first | (rw [if_neg (fun z => by first | exact c_29 z.1 | exact absurd z.2 (Int32.not_lt.mpr c_42))] at q; exact q) | (rw [if_pos ⟨by first | exact c_29 | exact Decidable.not_not.mp c_29, Int32.not_le.mp c_42⟩] at q; exact q)
    refine k_aload_n eX3_chooseOne_32 rfl ?_
    refine GX3_15 eX3_chooseOne_33 rfl ?_
    refine k_iload eX3_chooseOne_36 rfl ?_
    refine cN1 (M' := MX11_read) eX3_chooseOne_38 mX3_49 wX11_read sX11_read rfl (pX11_readN (j := (f0 + j)) (ar31 _) (by omega) (by decide)) (by omega) (Nat.le_of_ble_eq_true rfl) ?_
    refine k_iload_n eX3_chooseOne_41 rfl ?_
    refine k_icmp_le 58 eX3_chooseOne_42 (by decide) (fun c_42 => ?_) (fun c_42 => ?_)
    · refine k_iincN (g := 1) (a := (f0 + j)) (L2 := [_, _, _, _, _]) eX3_chooseOne_58 (Nat.le_of_ble_eq_true rfl) rfl rfl ?_
      refine k_goto 7 eX3_chooseOne_61 (by decide) ?_
      have q := ih (j + 1) (by omega)
      rw [co] at q
      first | (rw [if_neg (fun z => by first | exact c_29 z.1 | exact absurd z.2 (Int32.not_lt.mpr c_42))] at q; exact q) | (rw [if_pos ⟨by first | exact c_29 | exact Decidable.not_not.mp c_29, Int32.not_le.mp c_42⟩] at q; exact q)
    refine k_aload_n eX3_chooseOne_45 rfl ?_
    refine GX3_15 eX3_chooseOne_46 rfl ?_
    refine k_iload eX3_chooseOne_49 rfl ?_
    refine cN1 (M' := MX11_read) eX3_chooseOne_51 mX3_49 wX11_read sX11_read rfl (pX11_readN (j := (f0 + j)) (ar31 _) (by omega) (by decide)) (by omega) (Nat.le_of_ble_eq_true rfl) ?_
    refine k_istore_n (L2 := [_, _, _, _, _]) eX3_chooseOne_54 (Nat.le_of_ble_eq_true rfl) rfl ?_
    refine k_iload eX3_chooseOne_55 rfl ?_
    refine k_istore_n (L2 := [_, _, _, _, _]) eX3_chooseOne_57 (Nat.le_of_ble_eq_true rfl) rfl ?_
    refine k_iincN (g := 1) (a := (f0 + j)) (L2 := [_, _, _, _, _]) eX3_chooseOne_58 (Nat.le_of_ble_eq_true rfl) rfl rfl ?_
    refine k_goto 7 eX3_chooseOne_61 (by decide) ?_
    have q := ih (j + 1) (by omega)
    rw [co] at q
    first | (rw [if_neg (fun z => by first | exact c_29 z.1 | exact absurd z.2 (Int32.not_lt.mpr c_42))] at q; exact q) | (rw [if_pos ⟨by first | exact c_29 | exact Decidable.not_not.mp c_29, Int32.not_le.mp c_42⟩] at q; exact q)
set_option maxHeartbeats 400000 in
theorem lX3_chooseOneE {d : Nat} {Po : Option Value → k_H → Prop} (hdd : 2 ≤ d) {S : k_S} {f0 : Nat} (hf0 : f0 < 120)(h7 : 120 < f0 + 7) (kx : AW none MX3_chooseOne d 0 0 64 [.ref 29, .int (nI f0), .int ((co (S.2.1 32) (S.2.1 31) f0 ((120 - f0))).2), .int ((oI (co (S.2.1 32) (S.2.1 31) f0 ((120 - f0))).1)), .int (nI (f0 + ((120 - f0))))] [] (hp S) Po) : ∀ (n j : Nat), j + n = (120 - f0) → AW none MX3_chooseOne d 0 0 7 [.ref 29, .int (nI f0), .int ((co (S.2.1 32) (S.2.1 31) f0 j).2), .int ((oI (co (S.2.1 32) (S.2.1 31) f0 j).1)), .int (nI (f0 + j))] [] (hp S) Po := by
  intro n
  induction n with
  | zero =>
    intro j hj
    rw [show j = (120 - f0) by omega]
    refine k_iload eX3_chooseOne_7 rfl ?_
    refine k_iload_n eX3_chooseOne_9 rfl ?_
    refine k_bipush (v := nI 7) eX3_chooseOne_10 (by decide) ?_
    refine k_iaddN eX3_chooseOne_12 ?_
    refine k_icmp_geN 64 eX3_chooseOne_13 (by decide) (by omega) (by omega) (fun c_13 => by exfalso; omega) (fun c_13 => ?_)
    refine k_iload eX3_chooseOne_16 rfl ?_
    refine k_bipush (v := nI 120) eX3_chooseOne_18 (by decide) ?_
    refine k_icmp_geN 64 eX3_chooseOne_20 (by decide) (by omega) (by omega) (fun c_20 => ?_) (fun c_20 => by exfalso; omega)
    exact kx
  | succ n ih =>
    intro j hj
    refine k_iload eX3_chooseOne_7 rfl ?_
    refine k_iload_n eX3_chooseOne_9 rfl ?_
    refine k_bipush (v := nI 7) eX3_chooseOne_10 (by decide) ?_
    refine k_iaddN eX3_chooseOne_12 ?_
    refine k_icmp_geN 64 eX3_chooseOne_13 (by decide) (by omega) (by omega) (fun c_13 => by exfalso; omega) (fun c_13 => ?_)
    refine k_iload eX3_chooseOne_16 rfl ?_
    refine k_bipush (v := nI 120) eX3_chooseOne_18 (by decide) ?_
    refine k_icmp_geN 64 eX3_chooseOne_20 (by decide) (by omega) (by omega) (fun c_20 => by exfalso; omega) (fun c_20 => ?_)
    refine k_aload_n eX3_chooseOne_23 rfl ?_
    refine k_iload eX3_chooseOne_24 rfl ?_
    refine cV1 (M' := MX3_chosenOn) eX3_chooseOne_26 mX3_109 wX3_chosenOn vX3_chosenOn ⟨_, _, _, rfl, rfl, rfl⟩ rfl (pX3_chosenOn (S := S) (j := (f0 + j)) (by omega)) (by omega) (Nat.le_of_ble_eq_true rfl) ?_
    refine k_if_ne 58 eX3_chooseOne_29 (by decide) (fun c_29 => ?_) (fun c_29 => ?_)
    · refine k_iincN (g := 1) (a := (f0 + j)) (L2 := [_, _, _, _, _]) eX3_chooseOne_58 (Nat.le_of_ble_eq_true rfl) rfl rfl ?_
      refine k_goto 7 eX3_chooseOne_61 (by decide) ?_
      have q := ih (j + 1) (by omega)
      rw [co] at q
      first | (rw [if_neg (fun z => by first | exact c_29 z.1 | exact absurd z.2 (Int32.not_lt.mpr c_42))] at q; exact q) | (rw [if_pos ⟨by first | exact c_29 | exact Decidable.not_not.mp c_29, Int32.not_le.mp c_42⟩] at q; exact q)
    refine k_aload_n eX3_chooseOne_32 rfl ?_
    refine GX3_15 eX3_chooseOne_33 rfl ?_
    refine k_iload eX3_chooseOne_36 rfl ?_
    refine cN1 (M' := MX11_read) eX3_chooseOne_38 mX3_49 wX11_read sX11_read rfl (pX11_readN (j := (f0 + j)) (ar31 _) (by omega) (by decide)) (by omega) (Nat.le_of_ble_eq_true rfl) ?_
    refine k_iload_n eX3_chooseOne_41 rfl ?_
    refine k_icmp_le 58 eX3_chooseOne_42 (by decide) (fun c_42 => ?_) (fun c_42 => ?_)
    · refine k_iincN (g := 1) (a := (f0 + j)) (L2 := [_, _, _, _, _]) eX3_chooseOne_58 (Nat.le_of_ble_eq_true rfl) rfl rfl ?_
      refine k_goto 7 eX3_chooseOne_61 (by decide) ?_
      have q := ih (j + 1) (by omega)
      rw [co] at q
      first | (rw [if_neg (fun z => by first | exact c_29 z.1 | exact absurd z.2 (Int32.not_lt.mpr c_42))] at q; exact q) | (rw [if_pos ⟨by first | exact c_29 | exact Decidable.not_not.mp c_29, Int32.not_le.mp c_42⟩] at q; exact q)
    refine k_aload_n eX3_chooseOne_45 rfl ?_
    refine GX3_15 eX3_chooseOne_46 rfl ?_
    refine k_iload eX3_chooseOne_49 rfl ?_
    refine cN1 (M' := MX11_read) eX3_chooseOne_51 mX3_49 wX11_read sX11_read rfl (pX11_readN (j := (f0 + j)) (ar31 _) (by omega) (by decide)) (by omega) (Nat.le_of_ble_eq_true rfl) ?_
    refine k_istore_n (L2 := [_, _, _, _, _]) eX3_chooseOne_54 (Nat.le_of_ble_eq_true rfl) rfl ?_
    refine k_iload eX3_chooseOne_55 rfl ?_
    refine k_istore_n (L2 := [_, _, _, _, _]) eX3_chooseOne_57 (Nat.le_of_ble_eq_true rfl) rfl ?_
    refine k_iincN (g := 1) (a := (f0 + j)) (L2 := [_, _, _, _, _]) eX3_chooseOne_58 (Nat.le_of_ble_eq_true rfl) rfl rfl ?_
    refine k_goto 7 eX3_chooseOne_61 (by decide) ?_
    have q := ih (j + 1) (by omega)
    rw [co] at q
    first | (rw [if_neg (fun z => by first | exact c_29 z.1 | exact absurd z.2 (Int32.not_lt.mpr c_42))] at q; exact q) | (rw [if_pos ⟨by first | exact c_29 | exact Decidable.not_not.mp c_29, Int32.not_le.mp c_42⟩] at q; exact q)
theorem tX3_chooseOne {S : k_S} {f0 n : Nat} (hn : f0 + n ≤ 120) (e : n = coN f0) : AW none MX3_chooseOne 1 0 0 64 [.ref 29, .int (nI f0), .int (co (S.2.1 32) (S.2.1 31) f0 n).2, .int (oI (co (S.2.1 32) (S.2.1 31) f0 n).1), .int (nI (f0 + n))] [] (hp S) (Rt (some (.int (coV S f0))) (hp (coS S f0))) := by
  have e1 : coV S f0 = (co (S.2.1 32) (S.2.1 31) f0 n).2 := by rw [coV, e]
  rw [e1]
  cases hb : (co (S.2.1 32) (S.2.1 31) f0 n).1 with
  | none =>
    have e2 : coS S f0 = S := by rw [coS, ← e, hb]
    rw [e2]
    refine k_iload_n eX3_chooseOne_64 rfl ?_
    refine k_if_lt 84 eX3_chooseOne_65 (by decide) (fun c => ?_) (fun c => absurd (by decide) c)
    refine k_iload_n eX3_chooseOne_84 rfl ?_
    refine k_ireturn eX3_chooseOne_85 rfl rfl ?_
    exact ⟨rfl, rfl⟩
  | some b =>
    have hlt := co_lt _ _ _ _ _ hb
    have e2 : coS S f0 = sa S 32 (va_up (S.2.1 32) b (S.2.1 30 b)) := by rw [coS, ← e, hb]
    rw [e2]
    show AW none MX3_chooseOne 1 0 0 64 [.ref 29, .int (nI f0), .int (co (S.2.1 32) (S.2.1 31) f0 n).2, .int (nI b), .int (nI (f0 + n))] [] (hp S) _
    refine k_iload_n eX3_chooseOne_64 rfl ?_
    refine k_if_ltN 84 eX3_chooseOne_65 (by decide) (by omega) ?_
    refine k_aload_n eX3_chooseOne_68 rfl ?_
    refine GX3_18 eX3_chooseOne_69 rfl ?_
    refine k_iload_n eX3_chooseOne_72 rfl ?_
    refine k_aload_n eX3_chooseOne_73 rfl ?_
    refine GX3_9 eX3_chooseOne_74 rfl ?_
    refine k_iload_n eX3_chooseOne_77 rfl ?_
    refine cN1 (M' := MX11_read) eX3_chooseOne_78 mX3_49 wX11_read sX11_read rfl (pX11_readN (j := b) (ar30 _) (by omega) (by decide)) (by decide) (Nat.le_of_ble_eq_true rfl) ?_
    refine cN0 (M' := MX11_write) eX3_chooseOne_81 mX3_102 wX11_write sX11_write rfl (pX11_writeN (j := b) (v := ((S).2.1 30 b)) (ar32 _) (by omega) (by decide) (as32 _ _)) (by decide) (Nat.le_of_ble_eq_true rfl) ?_
    refine k_iload_n eX3_chooseOne_84 rfl ?_
    refine k_ireturn eX3_chooseOne_85 rfl rfl ?_
    exact ⟨rfl, rfl⟩
theorem pX3_chooseOne {S : k_S} {f0 : Nat} (hf0 : f0 < 120) : Sp 2 0 0 MX3_chooseOne [.ref 29, .int (nI f0)] (hp S) (Rt (some (.int (coV S f0))) (hp (coS S f0))) := by
  refine Sp_of (by decide +kernel) (Nat.le_of_ble_eq_true rfl) ?_
  show AW none MX3_chooseOne 2 0 0 0 [.ref 29, .int (nI f0), .null, .null, .null] [] (hp S) _
  have key : ∀ n, f0 + n ≤ 120 → n = coN f0 → AW none MX3_chooseOne 2 0 0 64 [.ref 29, .int (nI f0), .int (co (S.2.1 32) (S.2.1 31) f0 n).2, .int (oI (co (S.2.1 32) (S.2.1 31) f0 n).1), .int (nI (f0 + n))] [] (hp S) (Rt (some (.int (coV S f0))) (hp (coS S f0))) := fun n h1 h2 => (tX3_chooseOne h1 h2).up (by decide)
  refine k_iconst (v := nI 0) eX3_chooseOne_0 (by decide) ?_
  refine k_istore_n (L2 := [_, _, _, _, _]) eX3_chooseOne_1 (Nat.le_of_ble_eq_true rfl) rfl ?_
  refine k_iconst (v := (-1)) eX3_chooseOne_2 (by decide) ?_
  refine k_istore_n (L2 := [_, _, _, _, _]) eX3_chooseOne_3 (Nat.le_of_ble_eq_true rfl) rfl ?_
  refine k_iload_n eX3_chooseOne_4 rfl ?_
  refine k_istore (L2 := [_, _, _, _, _]) eX3_chooseOne_5 (Nat.le_of_ble_eq_true rfl) rfl ?_
  rcases Nat.lt_or_ge 120 (f0 + 7) with h7 | h7
  · exact lX3_chooseOneE (by decide) hf0 h7 (key _ (by omega) (by unfold coN; omega)) (120 - f0) 0 (by omega)
  · exact lX3_chooseOne7 (by decide) hf0 h7 (key _ (by omega) (by unfold coN; omega)) 7 0 (by omega)
