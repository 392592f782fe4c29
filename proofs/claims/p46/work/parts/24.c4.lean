/-- the best of the works 1 .. n on day d: which, and its worth -/
def bs (V : k_V) (dn r d : Nat) : Nat → Nat × Int32
  | 0 => (0, nI 0)
  | n + 1 => if (bs V dn r d n).2 < wor V dn r (n + 1) d then (n + 1, wor V dn r (n + 1) d) else bs V dn r d n
theorem bs_le (V : k_V) (dn r d : Nat) : ∀ n, (bs V dn r d n).1 ≤ n
  | 0 => Nat.le_refl 0
  | n + 1 => by have := bs_le V dn r d n; rw [bs]; split <;> simp <;> omega
/-- led: of the days ahead of n the one that brings day most -/
def ld (V : k_V) (r day : Nat) : Nat → Int32 × Int32
  | 0 => (-2, nI 0)
  | n + 1 => if (ld V r day n).2 < pts V r (pw V n) (day - n) then (nI n, pts V r (pw V n) (day - n)) else ld V r day n
set_option maxHeartbeats 400000 in
theorem lX3_leadingDay {d : Nat} {Po : Option Value → k_H → Prop} (hdd : 3 ≤ d) {S : k_S} {V : k_V} (hV : vC S = V) (hpl : PlanOk V){r day : Nat} (hr : r < 5) (hday : day < 120) (kx : AW none MX3_leadingDay d 0 0 55 [.ref 29, .int (nI r), .int (nI day), .int ((ld V r day ((day + 1))).1), .int ((ld V r day ((day + 1))).2), .int (nI ((day + 1))), .null] [] (hp S) Po) : ∀ (n j : Nat), j + n = (day + 1) → AW none MX3_leadingDay d 0 0 9 [.ref 29, .int (nI r), .int (nI day), .int ((ld V r day j).1), .int ((ld V r day j).2), .int (nI j), .null] [] (hp S) Po := by
  intro n
  induction n with
  | zero =>
    intro j hj
    rw [show j = (day + 1) by omega]
    refine k_iload eX3_leadingDay_9 rfl ?_
    refine k_iload_n eX3_leadingDay_11 rfl ?_
    refine k_icmp_gtN 55 eX3_leadingDay_12 (by decide) (by omega) (by omega) (fun c_12 => ?_) (fun c_12 => by exfalso; omega)
    exact kx
  | succ n ih =>
    intro j hj
    refine k_iload eX3_leadingDay_9 rfl ?_
    refine k_iload_n eX3_leadingDay_11 rfl ?_
    refine k_icmp_gtN 55 eX3_leadingDay_12 (by decide) (by omega) (by omega) (fun c_12 => by exfalso; omega) (fun c_12 => ?_)
    have hpw := hpl.lt (d := j) (by omega)
    refine k_aload_n eX3_leadingDay_15 rfl ?_
    refine k_iload_n eX3_leadingDay_16 rfl ?_
    refine k_aload_n eX3_leadingDay_17 rfl ?_
    refine GX3_29 eX3_leadingDay_18 rfl ?_
    refine k_iload eX3_leadingDay_21 rfl ?_
    refine cV1 (M' := MX2_at) eX3_leadingDay_23 mX3_67 wX2_at vX2_at ⟨_, _, _, rfl, rfl, rfl⟩ rfl (pX2_at (S := S) (j := j) (by omega)) (by omega) (Nat.le_of_ble_eq_true rfl) ?_
    refine k_topi (nI (pw V j)) (vpl hV hpl (by omega)) ?_
    refine k_iload_n eX3_leadingDay_26 rfl ?_
    refine k_iload eX3_leadingDay_27 rfl ?_
    refine k_isubN eX3_leadingDay_29 (by omega) ?_
    refine cV1 (M' := MX3_brought) eX3_leadingDay_30 mX3_91 wX3_brought vX3_brought ⟨_, _, _, rfl, rfl, rfl⟩ rfl (pX3_brought (S := S) (V := V) (r := r) (w := (pw V j)) (k := (day - j)) hV (by omega) (by omega) (by omega)) (by omega) (Nat.le_of_ble_eq_true rfl) ?_
    refine k_istore (L2 := [_, _, _, _, _, _, _]) eX3_leadingDay_33 (Nat.le_of_ble_eq_true rfl) rfl ?_
    refine k_iload eX3_leadingDay_35 rfl ?_
    refine k_iload eX3_leadingDay_37 rfl ?_
    refine k_icmp_le 49 eX3_leadingDay_39 (by decide) (fun c_39 => ?_) (fun c_39 => ?_)
    · refine k_iincN (g := 1) (a := j) (L2 := [_, _, _, _, _, _, _]) eX3_leadingDay_49 (Nat.le_of_ble_eq_true rfl) rfl rfl ?_
      refine k_goto 9 eX3_leadingDay_52 (by decide) ?_
      refine k_forget 6 (L2 := [_, _, _, _, _, _, _]) rfl ?_
      have q := ih (j + 1) (by omega)
      rw [ld] at q
      first | (rw [if_neg (Int32.not_lt.mpr c_39)] at q; exact q) | (rw [if_pos (Int32.not_le.mp c_39)] at q; exact q)
    refine k_iload eX3_leadingDay_42 rfl ?_
    refine k_istore (L2 := [_, _, _, _, _, _, _]) eX3_leadingDay_44 (Nat.le_of_ble_eq_true rfl) rfl ?_
    refine k_iload eX3_leadingDay_46 rfl ?_
    refine k_istore_n (L2 := [_, _, _, _, _, _, _]) eX3_leadingDay_48 (Nat.le_of_ble_eq_true rfl) rfl ?_
    refine k_iincN (g := 1) (a := j) (L2 := [_, _, _, _, _, _, _]) eX3_leadingDay_49 (Nat.le_of_ble_eq_true rfl) rfl rfl ?_
    refine k_goto 9 eX3_leadingDay_52 (by decide) ?_
    refine k_forget 6 (L2 := [_, _, _, _, _, _, _]) rfl ?_
    have q := ih (j + 1) (by omega)
    rw [ld] at q
    first | (rw [if_neg (Int32.not_lt.mpr c_39)] at q; exact q) | (rw [if_pos (Int32.not_le.mp c_39)] at q; exact q)
set_option maxHeartbeats 400000 in
theorem pX3_leadingDay {S : k_S} {V : k_V} (hV : vC S = V) (hpl : PlanOk V){r day : Nat} (hr : r < 5) (hday : day < 120) : Sp 3 0 0 MX3_leadingDay [.ref 29, .int (nI r), .int (nI day)] (hp S) (Rt (some (.int ((ld V r day (day + 1)).1))) (hp S)) := by
  refine Sp_of (by decide +kernel) (Nat.le_of_ble_eq_true rfl) ?_
  show AW none MX3_leadingDay 3 0 0 0 [.ref 29, .int (nI r), .int (nI day), .null, .null, .null, .null] [] (hp S) _
  refine k_bipush (v := (-2)) eX3_leadingDay_0 (by decide) ?_
  refine k_istore_n (L2 := [_, _, _, _, _, _, _]) eX3_leadingDay_2 (Nat.le_of_ble_eq_true rfl) rfl ?_
  refine k_iconst (v := nI 0) eX3_leadingDay_3 (by decide) ?_
  refine k_istore (L2 := [_, _, _, _, _, _, _]) eX3_leadingDay_4 (Nat.le_of_ble_eq_true rfl) rfl ?_
  refine k_iconst (v := nI 0) eX3_leadingDay_6 (by decide) ?_
  refine k_istore (L2 := [_, _, _, _, _, _, _]) eX3_leadingDay_7 (Nat.le_of_ble_eq_true rfl) rfl ?_
  refine lX3_leadingDay (by decide) hV hpl hr hday ?_ ((day + 1)) 0 (by omega)
  refine k_iload_n eX3_leadingDay_55 rfl ?_
  refine k_ireturn eX3_leadingDay_56 rfl rfl ?_
  exact ⟨rfl, rfl⟩
/-- a row whose first n are told by g -/
def fillN (g f : Nat → Int32) : Nat → Nat → Int32
  | 0 => f
  | n + 1 => va_up (fillN g f n) n (g n)
theorem fillN_at (g f : Nat → Int32) : ∀ n j, fillN g f n j = if j < n then g j else f j
  | 0, j => by rw [if_neg (by omega)]; rfl
  | n + 1, j => by
    rw [fillN, va_up]
    by_cases h : j = n
    · subst h; rw [if_pos rfl, if_pos (by omega)]
    · rw [if_neg h, fillN_at g f n j]
      by_cases h2 : j < n
      · rw [if_pos h2, if_pos (by omega)]
      · rw [if_neg h2, if_neg (by omega)]
