/-! THE REFERENCE -/
theorem pIn_W {k : Nat} (hk : k < 2 ^ 30) (v : Int32) : pIn v (nI 0) (nI k - nI 1) ↔ pW (nI k) v := by
  rw [pIn, pW, Int32.le_iff_toInt_le, Int32.le_iff_toInt_le, Int32.lt_iff_toInt_lt, pk_sub_toInt hk (by decide), nI_toInt (by omega), nI_toInt (by omega)]; omega
theorem mpl {S : k_S} {V : k_V} (hV : vM S = V) (hpl : PlanOk V) {d : Nat} (hd : d < 120) : S.2.1 61 d = nI (pw V d) := (congrFun (congrFun hV 6) d).trans (hpl.at hd)
theorem mcd {S : k_S} {V : k_V} {dn : Nat} (hV : vM S = V) (h : CntOk V dn) {c : Nat} (hc : c < dn) : S.2.1 62 c = nI (cN V c) := (congrFun (congrFun hV 7) c).trans (h.2 c hc).1
theorem sumN_congr {f g : Nat → Int32} : ∀ n, (∀ i, i < n → f i = g i) → sumN f n = sumN g n
  | 0, _ => rfl
  | n + 1, h => by rw [sumN, sumN, sumN_congr n (fun i hi => h i (by omega)), h n (by omega)]
theorem sumN_fr (f : Nat → Int32) : ∀ n, sumN f (n + 1) = f 0 + sumN (fun i => f (i + 1)) n
  | 0 => by rw [sumN, sumN, sumN]; exact (Int32.zero_add _).trans (Int32.add_zero _).symm
  | n + 1 => by rw [sumN, sumN_fr f n, sumN, Int32.add_assoc]
theorem sumN_rev (F : Nat → Int32) : ∀ n, sumN (fun i => F (n - 1 - i)) n = sumN F n
  | 0 => rfl
  | n + 1 => by
    rw [sumN_fr, sumN, show n + 1 - 1 - 0 = n by omega, Int32.add_comm, ← sumN_rev F n]
    congr 1
    exact sumN_congr n (fun i hi => by rw [show n + 1 - 1 - (i + 1) = n - 1 - i by omega])
theorem sumN_sub (f g : Nat → Int32) : ∀ n, sumN (fun i => f i - g i) n = sumN f n - sumN g n
  | 0 => by rw [sumN, sumN, sumN, Int32.sub_self]; rfl
  | n + 1 => by
    rw [sumN, sumN, sumN, sumN_sub f g n]
    simp only [Int32.sub_eq_add_neg, Int32.neg_add]
    ac_rfl
/-- of rest nothing is left -/
def RstOk (V : k_V) : Prop := V 0 0 = nI 0 ∧ V 1 0 = nI 0
theorem pts_0 {V : k_V} (h : RstOk V) (r k : Nat) : pts V r 0 k = nI 0 := by
  rw [pts, str, tir, h.1, h.2, show nI 0 = (0 : Int32) from rfl, Int32.zero_mul, Int32.zero_div, Int32.zero_mul, Int32.zero_mul]; rfl
theorem wor_0 {V : k_V} (h : RstOk V) (dn r d : Nat) : wor V dn r 0 d = nI 0 := by
  rw [wor]
  induction dn with
  | zero => rfl
  | succ n ih =>
    rw [sumN, ih, pts_0 h]
    by_cases c : d ≤ cN V n
    · rw [if_pos c]; exact (Int32.zero_add _).trans Int32.mul_zero
    · rw [if_neg c]; rfl
/-- one of the three sums, of a day's works so long ago -/
def sm1 (V : k_V) (r w q k : Nat) : Int32 := if q = 0 then pts V r w k else if q = 1 then str V r w k else tir V r w k
def smF (V : k_V) (r day q d : Nat) : Int32 := if pw V d = 0 then nI 0 else sm1 V r (pw V d) q (day - d)
def smT (V : k_V) (r day q k : Nat) : Int32 := if pw V (day - k) = 0 then nI 0 else sm1 V r (pw V (day - k)) q k
def smV (V : k_V) (r day q g : Nat) : Int32 := sumN (smF V r day q) (day + 1 - g)
theorem smV_T (V : k_V) (r day q g : Nat) : sumN (fun i => smT V r day q (g + i)) (day + 1 - g) = smV V r day q g := by
  rw [smV, ← sumN_rev (smF V r day q)]
  refine sumN_congr _ (fun i hi => ?_)
  rw [smF, smT, show day + 1 - g - 1 - i = day - (g + i) by omega, show day - (day - (g + i)) = g + i by omega]
theorem smV_1 (V : k_V) (r day g : Nat) : smV V r day 1 g = sSum V r day (day + 1 - g) := rfl
theorem smV_2 (V : k_V) (r day g : Nat) : smV V r day 2 g = tSum V r day (day + 1 - g) := rfl
theorem smV_0 (V : k_V) (r day g : Nat) : smV V r day 0 g = sSum V r day (day + 1 - g) - tSum V r day (day + 1 - g) := by
  rw [smV, sSum, tSum, ← sumN_sub]
  refine sumN_congr _ (fun i _ => ?_)
  rw [smF]
  by_cases c : pw V i = 0
  · simp only [if_pos c]; rfl
  · simp only [if_neg c]; rfl
theorem smV_fit (V : k_V) (r day : Nat) : smV V r day 0 0 = fitv V r day := smV_0 V r day 0
set_option maxHeartbeats 400000 in
theorem pX12_in {h : k_H} (v a b : Int32) : Sp 0 0 0 MX12_in [.int (v), .int (a), .int (b)] h (Rt (some (.int (b2i (pIn v a b)))) (h)) := by
  refine Sp_of (by decide +kernel) (Nat.le_of_ble_eq_true rfl) ?_
  show AW none MX12_in 0 0 0 0 [.int (v), .int (a), .int (b)] [] h _
  refine k_iload_n eX12_in_0 rfl ?_
  refine k_iload_n eX12_in_1 rfl ?_
  refine k_icmp_lt 14 eX12_in_2 (by decide) (fun c_2 => ?_) (fun c_2 => ?_)
  · refine k_iconst (v := nI 0) eX12_in_14 (by decide) ?_
    refine k_ireturn eX12_in_15 rfl rfl ?_
    exact ⟨rt_f (fun q => by first | exact absurd q.1 (Int32.not_le.mpr c_2) | exact absurd q.2 (Int32.not_le.mpr c_7)), rfl⟩
  refine k_iload_n eX12_in_5 rfl ?_
  refine k_iload_n eX12_in_6 rfl ?_
  refine k_icmp_gt 14 eX12_in_7 (by decide) (fun c_7 => ?_) (fun c_7 => ?_)
  · refine k_iconst (v := nI 0) eX12_in_14 (by decide) ?_
    refine k_ireturn eX12_in_15 rfl rfl ?_
    exact ⟨rt_f (fun q => by first | exact absurd q.1 (Int32.not_le.mpr c_2) | exact absurd q.2 (Int32.not_le.mpr c_7)), rfl⟩
  refine k_iconst (v := nI 1) eX12_in_10 (by decide) ?_
  refine k_goto 15 eX12_in_11 (by decide) ?_
  refine k_ireturn eX12_in_15 rfl rfl ?_
  exact ⟨rt_t ⟨Int32.not_lt.mp c_2, Int32.not_lt.mp c_7⟩, rfl⟩
set_option maxHeartbeats 400000 in
theorem pX12_isDay {h : k_H} (v : Int32) : Sp 1 0 0 MX12_isDay [.int (v)] h (Rt (some (.int (b2i (pD v)))) (h)) := by
  refine Sp_of (by decide +kernel) (Nat.le_of_ble_eq_true rfl) ?_
  show AW none MX12_isDay 1 0 0 0 [.int (v)] [] h _
  refine k_iload_n eX12_isDay_0 rfl ?_
  refine k_iconst (v := nI 0) eX12_isDay_1 (by decide) ?_
  refine k_bipush (v := nI 119) eX12_isDay_2 (by decide) ?_
  refine cS1 (M' := MX12_in) eX12_isDay_4 mX12_120 wX12_in sX12_in rfl (pX12_in (v) (nI 0) (nI 119)) (by decide) (Nat.le_of_ble_eq_true rfl) ?_
  refine k_ireturn eX12_isDay_7 rfl (k_nb _) ?_
  exact ⟨rfl, rfl⟩
set_option maxHeartbeats 400000 in
theorem pX12_isShelf {h : k_H} (v : Int32) : Sp 1 0 0 MX12_isShelf [.int (v)] h (Rt (some (.int (b2i (pSh v)))) (h)) := by
  refine Sp_of (by decide +kernel) (Nat.le_of_ble_eq_true rfl) ?_
  show AW none MX12_isShelf 1 0 0 0 [.int (v)] [] h _
  refine k_iload_n eX12_isShelf_0 rfl ?_
  refine k_iconst (v := nI 0) eX12_isShelf_1 (by decide) ?_
  refine k_iconst (v := nI 5) eX12_isShelf_2 (by decide) ?_
  refine cS1 (M' := MX12_in) eX12_isShelf_3 mX12_120 wX12_in sX12_in rfl (pX12_in (v) (nI 0) (nI 5)) (by decide) (Nat.le_of_ble_eq_true rfl) ?_
  refine k_ireturn eX12_isShelf_6 rfl (k_nb _) ?_
  exact ⟨by rw [b2i_c (show pIn v (nI 0) (nI 5) ↔ pSh v from by have q := pIn_W (k := 6) (by decide) v; rw [show nI 6 - nI 1 = nI 5 from by decide] at q; exact q)], rfl⟩
set_option maxHeartbeats 400000 in
theorem pX12_isWork {S : k_S} {wk : Nat} (hwk : S.1 2600 = nI wk) (hwk6 : wk ≤ 6) (v : Int32) : Sp 1 0 0 MX12_isWork [.ref 52, .int (v)] (hp S) (Rt (some (.int (b2i (pW (S.1 2600) v)))) (hp S)) := by
  refine Sp_of (by decide +kernel) (Nat.le_of_ble_eq_true rfl) ?_
  show AW none MX12_isWork 1 0 0 0 [.ref 52, .int (v)] [] (hp S) _
  refine k_iload_n eX12_isWork_0 rfl ?_
  refine k_iconst (v := nI 0) eX12_isWork_1 (by decide) ?_
  refine k_aload_n eX12_isWork_2 rfl ?_
  refine GX12_7 eX12_isWork_3 rfl ?_
  refine k_topi (nI wk) hwk ?_
  refine k_iconst (v := nI 1) eX12_isWork_6 (by decide) ?_
  refine k_isub eX12_isWork_7 ?_
  refine cS1 (M' := MX12_in) eX12_isWork_8 mX12_120 wX12_in sX12_in rfl (pX12_in (v) (nI 0) ((nI wk - nI 1))) (by decide) (Nat.le_of_ble_eq_true rfl) ?_
  refine k_ireturn eX12_isWork_11 rfl (k_nb _) ?_
  exact ⟨by rw [b2i_c (pIn_W (k := wk) (by omega) v), hwk], rfl⟩
set_option maxHeartbeats 400000 in
theorem pX12_isRunner {S : k_S} {rn : Nat} (hrn : S.1 2604 = nI rn) (hrn5 : rn ≤ 5) (v : Int32) : Sp 1 0 0 MX12_isRunner [.ref 52, .int (v)] (hp S) (Rt (some (.int (b2i (pW (S.1 2604) v)))) (hp S)) := by
  refine Sp_of (by decide +kernel) (Nat.le_of_ble_eq_true rfl) ?_
  show AW none MX12_isRunner 1 0 0 0 [.ref 52, .int (v)] [] (hp S) _
  refine k_iload_n eX12_isRunner_0 rfl ?_
  refine k_iconst (v := nI 0) eX12_isRunner_1 (by decide) ?_
  refine k_aload_n eX12_isRunner_2 rfl ?_
  refine GX12_124 eX12_isRunner_3 rfl ?_
  refine k_topi (nI rn) hrn ?_
  refine k_iconst (v := nI 1) eX12_isRunner_6 (by decide) ?_
  refine k_isub eX12_isRunner_7 ?_
  refine cS1 (M' := MX12_in) eX12_isRunner_8 mX12_120 wX12_in sX12_in rfl (pX12_in (v) (nI 0) ((nI rn - nI 1))) (by decide) (Nat.le_of_ble_eq_true rfl) ?_
  refine k_ireturn eX12_isRunner_11 rfl (k_nb _) ?_
  exact ⟨by rw [b2i_c (pIn_W (k := rn) (by omega) v), hrn], rfl⟩
set_option maxHeartbeats 400000 in
theorem pX12_isBoth {S : k_S} {rn : Nat} (hrn : S.1 2604 = nI rn) (hrn5 : rn ≤ 5) (x : Int32) : Sp 2 0 0 MX12_isBoth [.ref 52, .int (x)] (hp S) (Rt (some (.int (b2i (pRD (S.1 2604) x)))) (hp S)) := by
  refine Sp_of (by decide +kernel) (Nat.le_of_ble_eq_true rfl) ?_
  show AW none MX12_isBoth 2 0 0 0 [.ref 52, .int (x)] [] (hp S) _
  refine k_iload_n eX12_isBoth_0 rfl ?_
  refine k_if_lt 31 eX12_isBoth_1 (by decide) (fun c_1 => ?_) (fun c_1 => ?_)
  · refine k_iconst (v := nI 0) eX12_isBoth_31 (by decide) ?_
    refine k_ireturn eX12_isBoth_32 rfl rfl ?_
    exact ⟨rt_f (fun q => by first | exact q.1 c_1 | exact c_13 q.2.1 | exact c_24 q.2.2), rfl⟩
  refine k_aload_n eX12_isBoth_4 rfl ?_
  refine k_iload_n eX12_isBoth_5 rfl ?_
  refine k_sipush (v := nI 1000) eX12_isBoth_6 (by decide) ?_
  refine k_idiv eX12_isBoth_9 (by decide) ?_
  refine cV1 (M' := MX12_isRunner) eX12_isBoth_10 mX12_127 wX12_isRunner vX12_isRunner ⟨_, _, _, rfl, rfl, rfl⟩ rfl (pX12_isRunner (S := S) (rn := rn) hrn hrn5 ((x / nI 1000))) (by decide) (Nat.le_of_ble_eq_true rfl) ?_
  refine k_ifb_eq 31 eX12_isBoth_13 (by decide) (fun c_13 => ?_) (fun c_13 => ?_)
  · refine k_iconst (v := nI 0) eX12_isBoth_31 (by decide) ?_
    refine k_ireturn eX12_isBoth_32 rfl rfl ?_
    exact ⟨rt_f (fun q => by first | exact q.1 c_1 | exact c_13 q.2.1 | exact c_24 q.2.2), rfl⟩
  refine k_iload_n eX12_isBoth_16 rfl ?_
  refine k_sipush (v := nI 1000) eX12_isBoth_17 (by decide) ?_
  refine k_irem eX12_isBoth_20 (by decide) ?_
  refine cS1 (M' := MX12_isDay) eX12_isBoth_21 mX12_131 wX12_isDay sX12_isDay rfl (pX12_isDay ((x - x / nI 1000 * nI 1000))) (by decide) (Nat.le_of_ble_eq_true rfl) ?_
  refine k_ifb_eq 31 eX12_isBoth_24 (by decide) (fun c_24 => ?_) (fun c_24 => ?_)
  · refine k_iconst (v := nI 0) eX12_isBoth_31 (by decide) ?_
    refine k_ireturn eX12_isBoth_32 rfl rfl ?_
    exact ⟨rt_f (fun q => by first | exact q.1 c_1 | exact c_13 q.2.1 | exact c_24 q.2.2), rfl⟩
  refine k_iconst (v := nI 1) eX12_isBoth_27 (by decide) ?_
  refine k_goto 32 eX12_isBoth_28 (by decide) ?_
  refine k_ireturn eX12_isBoth_32 rfl rfl ?_
  exact ⟨rt_t ⟨c_1, c_13, c_24⟩, rfl⟩
set_option maxHeartbeats 400000 in
theorem lX12_workDays {d : Nat} {Po : Option Value → k_H → Prop} (hdd : 0 ≤ d) {S : k_S} {V : k_V} (hV : vM S = V) (hpl : PlanOk V) {x y : Nat} (hxy : x ≤ y + 1) (hy : y < 120) (kx : AW none MX12_workDays d 0 0 35 [.ref 52, .int (nI x), .int (nI y), .int (nI (cnt (S.2.1 61) x ((y + 1 - x)))), .int (nI (x + ((y + 1 - x))))] [] (hp S) Po) : ∀ (n j : Nat), j + n = (y + 1 - x) → AW none MX12_workDays d 0 0 5 [.ref 52, .int (nI x), .int (nI y), .int (nI (cnt (S.2.1 61) x j)), .int (nI (x + j))] [] (hp S) Po := by
  intro n
  induction n with
  | zero =>
    intro j hj
    rw [show j = (y + 1 - x) by omega]
    have hcl := cnt_le (S.2.1 61) x (y + 1 - x)
    refine k_iload eX12_workDays_5 rfl ?_
    refine k_iload_n eX12_workDays_7 rfl ?_
    refine k_icmp_gtN 35 eX12_workDays_8 (by decide) (by omega) (by omega) (fun c_8 => ?_) (fun c_8 => by exfalso; omega)
    exact kx
  | succ n ih =>
    intro j hj
    have hcl := cnt_le (S.2.1 61) x j
    have hpw := hpl.lt (d := x + j) (by omega)
    refine k_iload eX12_workDays_5 rfl ?_
    refine k_iload_n eX12_workDays_7 rfl ?_
    refine k_icmp_gtN 35 eX12_workDays_8 (by decide) (by omega) (by omega) (fun c_8 => by exfalso; omega) (fun c_8 => ?_)
    refine k_iload_n eX12_workDays_11 rfl ?_
    refine k_aload_n eX12_workDays_12 rfl ?_
    refine GX12_38 eX12_workDays_13 rfl ?_
    refine k_iload eX12_workDays_16 rfl ?_
    refine k_ialdN (j := (x + j)) eX12_workDays_18 (ar61 _) (by omega) (Nat.le_of_ble_eq_true rfl) ?_
    refine k_topi (nI (pw V (x + j))) (mpl hV hpl (by omega)) ?_
    refine k_if_leN 26 eX12_workDays_19 (by decide) (by omega) (fun c_19 => ?_) (fun c_19 => ?_)
    · refine k_iconst (v := nI 0) eX12_workDays_26 (by decide) ?_
      refine k_iaddN eX12_workDays_27 ?_
      refine k_istore_n (L2 := [_, _, _, _, _]) eX12_workDays_28 (Nat.le_of_ble_eq_true rfl) rfl ?_
      refine k_iincN (g := 1) (a := (x + j)) (L2 := [_, _, _, _, _]) eX12_workDays_29 (Nat.le_of_ble_eq_true rfl) rfl rfl ?_
      refine k_goto 5 eX12_workDays_32 (by decide) ?_
      have q := ih (j + 1) (by omega)
      rw [cnt, show S.2.1 61 (x + j) = nI (pw V (x + j)) from mpl hV hpl (by omega)] at q
      first | (rw [if_pos (by rw [c_19]; rfl)] at q; exact q) | (rw [if_neg (nI_ne0 (by omega) (by omega))] at q; exact q)
    refine k_iconst (v := nI 1) eX12_workDays_22 (by decide) ?_
    refine k_goto 27 eX12_workDays_23 (by decide) ?_
    refine k_iaddN eX12_workDays_27 ?_
    refine k_istore_n (L2 := [_, _, _, _, _]) eX12_workDays_28 (Nat.le_of_ble_eq_true rfl) rfl ?_
    refine k_iincN (g := 1) (a := (x + j)) (L2 := [_, _, _, _, _]) eX12_workDays_29 (Nat.le_of_ble_eq_true rfl) rfl rfl ?_
    refine k_goto 5 eX12_workDays_32 (by decide) ?_
    have q := ih (j + 1) (by omega)
    rw [cnt, show S.2.1 61 (x + j) = nI (pw V (x + j)) from mpl hV hpl (by omega)] at q
    first | (rw [if_pos (by rw [c_19]; rfl)] at q; exact q) | (rw [if_neg (nI_ne0 (by omega) (by omega))] at q; exact q)
set_option maxHeartbeats 400000 in
theorem pX12_workDays {S : k_S} {V : k_V} (hV : vM S = V) (hpl : PlanOk V) {x y : Nat} (hxy : x ≤ y + 1) (hy : y < 120) : Sp 0 0 0 MX12_workDays [.ref 52, .int (nI x), .int (nI y)] (hp S) (Rt (some (.int (nI (cnt (S.2.1 61) x (y + 1 - x))))) (hp S)) := by
  refine Sp_of (by decide +kernel) (Nat.le_of_ble_eq_true rfl) ?_
  show AW none MX12_workDays 0 0 0 0 [.ref 52, .int (nI x), .int (nI y), .null, .null] [] (hp S) _
  refine k_iconst (v := nI 0) eX12_workDays_0 (by decide) ?_
  refine k_istore_n (L2 := [_, _, _, _, _]) eX12_workDays_1 (Nat.le_of_ble_eq_true rfl) rfl ?_
  refine k_iload_n eX12_workDays_2 rfl ?_
  refine k_istore (L2 := [_, _, _, _, _]) eX12_workDays_3 (Nat.le_of_ble_eq_true rfl) rfl ?_
  refine lX12_workDays (by decide) hV hpl hxy hy ?_ ((y + 1 - x)) 0 (by omega)
  refine k_iload_n eX12_workDays_35 rfl ?_
  refine k_ireturn eX12_workDays_36 rfl rfl ?_
  exact ⟨rfl, rfl⟩
set_option maxHeartbeats 400000 in
theorem pX12_of {S : k_S} {V : k_V} (hV : vM S = V) (x : Int32) : Sp 2 0 0 MX12_of [.ref 52, .int (x)] (hp S) (Rt (some (.int (aOf V x))) (hp S)) := by
  refine Sp_of (by decide +kernel) (Nat.le_of_ble_eq_true rfl) ?_
  show AW none MX12_of 2 0 0 0 [.ref 52, .int (x)] [] (hp S) _
  refine k_iload_n eX12_of_0 rfl ?_
  refine cS1 (M' := MX12_isDay) eX12_of_1 mX12_131 wX12_isDay sX12_isDay rfl (pX12_isDay (x)) (by decide) (Nat.le_of_ble_eq_true rfl) ?_
  refine k_ifb_eq 16 eX12_of_4 (by decide) (fun c_4 => ?_) (fun c_4 => ?_)
  · refine k_iconst (v := (-1)) eX12_of_16 (by decide) ?_
    refine k_ireturn eX12_of_17 rfl rfl ?_
    exact ⟨by rw [aOf, if_neg c_4], rfl⟩
  obtain ⟨j, hj, rfl⟩ := pD_ex c_4
  refine k_aload_n eX12_of_7 rfl ?_
  refine GX12_38 eX12_of_8 rfl ?_
  refine k_iload_n eX12_of_11 rfl ?_
  refine k_ialdN (j := j) eX12_of_12 (ar61 _) (by omega) (Nat.le_of_ble_eq_true rfl) ?_
  refine k_topi ((V 6 j)) (congrFun (congrFun hV 6) _) ?_
  refine k_goto 17 eX12_of_13 (by decide) ?_
  refine k_ireturn eX12_of_17 rfl rfl ?_
  exact ⟨by rw [aOf, if_pos c_4, ix_nI (by omega)], rfl⟩
set_option maxHeartbeats 400000 in
theorem pX12_strengthOf {S : k_S} {V : k_V} (hV : vM S = V) {r w k : Nat} (hr : r < 5) (hw : w < 6) (hk : k < 120) : Sp 0 0 0 MX12_strengthOf [.ref 52, .int (nI r), .int (nI w), .int (nI k)] (hp S) (Rt (some (.int (str V r w k))) (hp S)) := by
  refine Sp_of (by decide +kernel) (Nat.le_of_ble_eq_true rfl) ?_
  show AW none MX12_strengthOf 0 0 0 0 [.ref 52, .int (nI r), .int (nI w), .int (nI k)] [] (hp S) _
  refine k_aload_n eX12_strengthOf_0 rfl ?_
  refine GX12_17 eX12_strengthOf_1 rfl ?_
  refine k_iload_n eX12_strengthOf_4 rfl ?_
  refine k_ialdN (j := w) eX12_strengthOf_5 (ar54 _) (by omega) (Nat.le_of_ble_eq_true rfl) ?_
  refine k_aload_n eX12_strengthOf_6 rfl ?_
  refine GX12_29 eX12_strengthOf_7 rfl ?_
  refine k_iload_n eX12_strengthOf_10 rfl ?_
  refine k_ialdN (j := r) eX12_strengthOf_11 (ar58 _) (by omega) (Nat.le_of_ble_eq_true rfl) ?_
  refine k_imul eX12_strengthOf_12 ?_
  refine k_sipush (v := nI 1000) eX12_strengthOf_13 (by decide) ?_
  refine k_idiv eX12_strengthOf_16 (by decide) ?_
  refine k_aload_n eX12_strengthOf_17 rfl ?_
  refine GX12_35 eX12_strengthOf_18 rfl ?_
  refine k_bipush (v := nI 120) eX12_strengthOf_21 (by decide) ?_
  refine k_iload_n eX12_strengthOf_23 rfl ?_
  refine k_imulN eX12_strengthOf_24 ?_
  refine k_iload_n eX12_strengthOf_25 rfl ?_
  refine k_iaddN eX12_strengthOf_26 ?_
  refine k_ialdN (j := ((120 * r) + k)) eX12_strengthOf_27 (ar60 _) (by omega) (Nat.le_of_ble_eq_true rfl) ?_
  refine k_imul eX12_strengthOf_28 ?_
  refine k_ireturn eX12_strengthOf_29 rfl rfl ?_
  exact ⟨by subst hV; rw [str, Nat.mul_comm r 120]; rfl, rfl⟩
set_option maxHeartbeats 400000 in
theorem pX12_tiredOf {S : k_S} {V : k_V} (hV : vM S = V) {r w k : Nat} (hr : r < 5) (hw : w < 6) (hk : k < 120) : Sp 0 0 0 MX12_tiredOf [.ref 52, .int (nI r), .int (nI w), .int (nI k)] (hp S) (Rt (some (.int (tir V r w k))) (hp S)) := by
  refine Sp_of (by decide +kernel) (Nat.le_of_ble_eq_true rfl) ?_
  show AW none MX12_tiredOf 0 0 0 0 [.ref 52, .int (nI r), .int (nI w), .int (nI k)] [] (hp S) _
  refine k_aload_n eX12_tiredOf_0 rfl ?_
  refine GX12_13 eX12_tiredOf_1 rfl ?_
  refine k_iload_n eX12_tiredOf_4 rfl ?_
  refine k_ialdN (j := w) eX12_tiredOf_5 (ar53 _) (by omega) (Nat.le_of_ble_eq_true rfl) ?_
  refine k_aload_n eX12_tiredOf_6 rfl ?_
  refine GX12_32 eX12_tiredOf_7 rfl ?_
  refine k_bipush (v := nI 120) eX12_tiredOf_10 (by decide) ?_
  refine k_iload_n eX12_tiredOf_12 rfl ?_
  refine k_imulN eX12_tiredOf_13 ?_
  refine k_iload_n eX12_tiredOf_14 rfl ?_
  refine k_iaddN eX12_tiredOf_15 ?_
  refine k_ialdN (j := ((120 * r) + k)) eX12_tiredOf_16 (ar59 _) (by omega) (Nat.le_of_ble_eq_true rfl) ?_
  refine k_imul eX12_tiredOf_17 ?_
  refine k_ireturn eX12_tiredOf_18 rfl rfl ?_
  exact ⟨by subst hV; rw [tir, Nat.mul_comm r 120]; rfl, rfl⟩
set_option maxHeartbeats 400000 in
theorem pX12_pointsOf {S : k_S} {V : k_V} (hV : vM S = V) {r w k : Nat} (hr : r < 5) (hw : w < 6) (hk : k < 120) : Sp 1 0 0 MX12_pointsOf [.ref 52, .int (nI r), .int (nI w), .int (nI k)] (hp S) (Rt (some (.int (pts V r w k))) (hp S)) := by
  refine Sp_of (by decide +kernel) (Nat.le_of_ble_eq_true rfl) ?_
  show AW none MX12_pointsOf 1 0 0 0 [.ref 52, .int (nI r), .int (nI w), .int (nI k)] [] (hp S) _
  refine k_aload_n eX12_pointsOf_0 rfl ?_
  refine k_iload_n eX12_pointsOf_1 rfl ?_
  refine k_iload_n eX12_pointsOf_2 rfl ?_
  refine k_iload_n eX12_pointsOf_3 rfl ?_
  refine cV1 (M' := MX12_strengthOf) eX12_pointsOf_4 mX12_165 wX12_strengthOf vX12_strengthOf ⟨_, _, _, rfl, rfl, rfl⟩ rfl (pX12_strengthOf (S := S) (V := V) (r := r) (w := w) (k := k) hV (by omega) (by omega) (by omega)) (by decide) (Nat.le_of_ble_eq_true rfl) ?_
  refine k_aload_n eX12_pointsOf_7 rfl ?_
  refine k_iload_n eX12_pointsOf_8 rfl ?_
  refine k_iload_n eX12_pointsOf_9 rfl ?_
  refine k_iload_n eX12_pointsOf_10 rfl ?_
  refine cV1 (M' := MX12_tiredOf) eX12_pointsOf_11 mX12_169 wX12_tiredOf vX12_tiredOf ⟨_, _, _, rfl, rfl, rfl⟩ rfl (pX12_tiredOf (S := S) (V := V) (r := r) (w := w) (k := k) hV (by omega) (by omega) (by omega)) (by decide) (Nat.le_of_ble_eq_true rfl) ?_
  refine k_isub eX12_pointsOf_14 ?_
  refine k_ireturn eX12_pointsOf_15 rfl rfl ?_
  exact ⟨rfl, rfl⟩
set_option maxHeartbeats 400000 in
theorem lX12_sumOf {d : Nat} {Po : Option Value → k_H → Prop} (hdd : 2 ≤ d) {S : k_S} {V : k_V} (hV : vM S = V) (hpl : PlanOk V) {r dd q g : Nat} (hr : r < 5) (hdd2 : dd < 120) (hq : q < 3) (hg : g ≤ dd + 1) (kx : AW none MX12_sumOf d 0 0 86 [.ref 52, .int (nI r), .int (nI dd), .int (nI q), .int (nI g), .int (sumN (fun i => smT V r dd q (g + i)) ((dd + 1 - g))), .int (nI (g + ((dd + 1 - g)))), .null] [] (hp S) Po) : ∀ (n j : Nat), j + n = (dd + 1 - g) → AW none MX12_sumOf d 0 0 7 [.ref 52, .int (nI r), .int (nI dd), .int (nI q), .int (nI g), .int (sumN (fun i => smT V r dd q (g + i)) j), .int (nI (g + j)), .null] [] (hp S) Po := by
  intro n
  induction n with
  | zero =>
    intro j hj
    rw [show j = (dd + 1 - g) by omega]
    refine k_iload eX12_sumOf_7 rfl ?_
    refine k_iload_n eX12_sumOf_9 rfl ?_
    refine k_icmp_gtN 86 eX12_sumOf_10 (by decide) (by omega) (by omega) (fun c_10 => ?_) (fun c_10 => by exfalso; omega)
    exact kx
  | succ n ih =>
    intro j hj
    have hpw := hpl.lt (d := dd - (g + j)) (by omega)
    refine k_iload eX12_sumOf_7 rfl ?_
    refine k_iload_n eX12_sumOf_9 rfl ?_
    refine k_icmp_gtN 86 eX12_sumOf_10 (by decide) (by omega) (by omega) (fun c_10 => by exfalso; omega) (fun c_10 => ?_)
    refine k_aload_n eX12_sumOf_13 rfl ?_
    refine GX12_38 eX12_sumOf_14 rfl ?_
    refine k_iload_n eX12_sumOf_17 rfl ?_
    refine k_iload eX12_sumOf_18 rfl ?_
    refine k_isubN eX12_sumOf_20 (by omega) ?_
    refine k_ialdN (j := (dd - (g + j))) eX12_sumOf_21 (ar61 _) (by omega) (Nat.le_of_ble_eq_true rfl) ?_
    refine k_topi (nI (pw V (dd - (g + j)))) (mpl hV hpl (by omega)) ?_
    refine k_istore (L2 := [_, _, _, _, _, _, _, _]) eX12_sumOf_22 (Nat.le_of_ble_eq_true rfl) rfl ?_
    refine k_iload eX12_sumOf_24 rfl ?_
    refine k_iload eX12_sumOf_26 rfl ?_
    refine k_if_neN 35 eX12_sumOf_28 (by decide) (by omega) (fun c_28 => ?_) (fun c_28 => ?_)
    · refine k_iload_n eX12_sumOf_35 rfl ?_
      refine k_if_neN 51 eX12_sumOf_36 (by decide) (by omega) (fun c_36 => ?_) (fun c_36 => ?_)
      · refine k_iload_n eX12_sumOf_51 rfl ?_
        refine k_iconst (v := nI 1) eX12_sumOf_52 (by decide) ?_
        refine k_icmp_neN 68 eX12_sumOf_53 (by decide) (by omega) (by omega) (fun c_53 => ?_) (fun c_53 => ?_)
        · refine k_aload_n eX12_sumOf_68 rfl ?_
          refine k_iload_n eX12_sumOf_69 rfl ?_
          refine k_iload eX12_sumOf_70 rfl ?_
          refine k_iload eX12_sumOf_72 rfl ?_
          refine cV1 (M' := MX12_tiredOf) eX12_sumOf_74 mX12_169 wX12_tiredOf vX12_tiredOf ⟨_, _, _, rfl, rfl, rfl⟩ rfl (pX12_tiredOf (S := S) (V := V) (r := r) (w := (pw V (dd - (g + j)))) (k := (g + j)) hV (by omega) (by omega) (by omega)) (by omega) (Nat.le_of_ble_eq_true rfl) ?_
          refine k_iadd eX12_sumOf_77 ?_
          refine k_istore (L2 := [_, _, _, _, _, _, _, _]) eX12_sumOf_78 (Nat.le_of_ble_eq_true rfl) rfl ?_
          refine k_iincN (g := 1) (a := (g + j)) (L2 := [_, _, _, _, _, _, _, _]) eX12_sumOf_80 (Nat.le_of_ble_eq_true rfl) rfl rfl ?_
          refine k_goto 7 eX12_sumOf_83 (by decide) ?_
          refine k_forget 7 (L2 := [_, _, _, _, _, _, _, _]) rfl ?_
          have qq := ih (j + 1) (by omega)
          rw [sumN_s, smT] at qq
          first | (rw [if_pos (by omega)] at qq; exact qq) | (rw [if_neg (by omega), sm1, if_pos (by omega)] at qq; exact qq) | (rw [if_neg (by omega), sm1, if_neg (by omega), if_pos (by omega)] at qq; exact qq) | (rw [if_neg (by omega), sm1, if_neg (by omega), if_neg (by omega)] at qq; exact qq)
        refine k_aload_n eX12_sumOf_56 rfl ?_
        refine k_iload_n eX12_sumOf_57 rfl ?_
        refine k_iload eX12_sumOf_58 rfl ?_
        refine k_iload eX12_sumOf_60 rfl ?_
        refine cV1 (M' := MX12_strengthOf) eX12_sumOf_62 mX12_165 wX12_strengthOf vX12_strengthOf ⟨_, _, _, rfl, rfl, rfl⟩ rfl (pX12_strengthOf (S := S) (V := V) (r := r) (w := (pw V (dd - (g + j)))) (k := (g + j)) hV (by omega) (by omega) (by omega)) (by omega) (Nat.le_of_ble_eq_true rfl) ?_
        refine k_goto 77 eX12_sumOf_65 (by decide) ?_
        refine k_iadd eX12_sumOf_77 ?_
        refine k_istore (L2 := [_, _, _, _, _, _, _, _]) eX12_sumOf_78 (Nat.le_of_ble_eq_true rfl) rfl ?_
        refine k_iincN (g := 1) (a := (g + j)) (L2 := [_, _, _, _, _, _, _, _]) eX12_sumOf_80 (Nat.le_of_ble_eq_true rfl) rfl rfl ?_
        refine k_goto 7 eX12_sumOf_83 (by decide) ?_
        refine k_forget 7 (L2 := [_, _, _, _, _, _, _, _]) rfl ?_
        have qq := ih (j + 1) (by omega)
        rw [sumN_s, smT] at qq
        first | (rw [if_pos (by omega)] at qq; exact qq) | (rw [if_neg (by omega), sm1, if_pos (by omega)] at qq; exact qq) | (rw [if_neg (by omega), sm1, if_neg (by omega), if_pos (by omega)] at qq; exact qq) | (rw [if_neg (by omega), sm1, if_neg (by omega), if_neg (by omega)] at qq; exact qq)
      refine k_aload_n eX12_sumOf_39 rfl ?_
      refine k_iload_n eX12_sumOf_40 rfl ?_
      refine k_iload eX12_sumOf_41 rfl ?_
      refine k_iload eX12_sumOf_43 rfl ?_
      refine cV1 (M' := MX12_pointsOf) eX12_sumOf_45 mX12_172 wX12_pointsOf vX12_pointsOf ⟨_, _, _, rfl, rfl, rfl⟩ rfl (pX12_pointsOf (S := S) (V := V) (r := r) (w := (pw V (dd - (g + j)))) (k := (g + j)) hV (by omega) (by omega) (by omega)) (by omega) (Nat.le_of_ble_eq_true rfl) ?_
      refine k_goto 77 eX12_sumOf_48 (by decide) ?_
      refine k_iadd eX12_sumOf_77 ?_
      refine k_istore (L2 := [_, _, _, _, _, _, _, _]) eX12_sumOf_78 (Nat.le_of_ble_eq_true rfl) rfl ?_
      refine k_iincN (g := 1) (a := (g + j)) (L2 := [_, _, _, _, _, _, _, _]) eX12_sumOf_80 (Nat.le_of_ble_eq_true rfl) rfl rfl ?_
      refine k_goto 7 eX12_sumOf_83 (by decide) ?_
      refine k_forget 7 (L2 := [_, _, _, _, _, _, _, _]) rfl ?_
      have qq := ih (j + 1) (by omega)
      rw [sumN_s, smT] at qq
      first | (rw [if_pos (by omega)] at qq; exact qq) | (rw [if_neg (by omega), sm1, if_pos (by omega)] at qq; exact qq) | (rw [if_neg (by omega), sm1, if_neg (by omega), if_pos (by omega)] at qq; exact qq) | (rw [if_neg (by omega), sm1, if_neg (by omega), if_neg (by omega)] at qq; exact qq)
    refine k_iconst (v := nI 0) eX12_sumOf_31 (by decide) ?_
    refine k_goto 77 eX12_sumOf_32 (by decide) ?_
    refine k_iadd eX12_sumOf_77 ?_
    refine k_istore (L2 := [_, _, _, _, _, _, _, _]) eX12_sumOf_78 (Nat.le_of_ble_eq_true rfl) rfl ?_
    refine k_iincN (g := 1) (a := (g + j)) (L2 := [_, _, _, _, _, _, _, _]) eX12_sumOf_80 (Nat.le_of_ble_eq_true rfl) rfl rfl ?_
    refine k_goto 7 eX12_sumOf_83 (by decide) ?_
    refine k_forget 7 (L2 := [_, _, _, _, _, _, _, _]) rfl ?_
    have qq := ih (j + 1) (by omega)
    rw [sumN_s, smT] at qq
    first | (rw [if_pos (by omega)] at qq; exact qq) | (rw [if_neg (by omega), sm1, if_pos (by omega)] at qq; exact qq) | (rw [if_neg (by omega), sm1, if_neg (by omega), if_pos (by omega)] at qq; exact qq) | (rw [if_neg (by omega), sm1, if_neg (by omega), if_neg (by omega)] at qq; exact qq)
set_option maxHeartbeats 400000 in
theorem pX12_sumOf {S : k_S} {V : k_V} (hV : vM S = V) (hpl : PlanOk V) {r dd q g : Nat} (hr : r < 5) (hdd2 : dd < 120) (hq : q < 3) (hg : g ≤ dd + 1) : Sp 2 0 0 MX12_sumOf [.ref 52, .int (nI r), .int (nI dd), .int (nI q), .int (nI g)] (hp S) (Rt (some (.int (smV V r dd q g))) (hp S)) := by
  refine Sp_of (by decide +kernel) (Nat.le_of_ble_eq_true rfl) ?_
  show AW none MX12_sumOf 2 0 0 0 [.ref 52, .int (nI r), .int (nI dd), .int (nI q), .int (nI g), .null, .null, .null] [] (hp S) _
  refine k_iconst (v := nI 0) eX12_sumOf_0 (by decide) ?_
  refine k_istore (L2 := [_, _, _, _, _, _, _, _]) eX12_sumOf_1 (Nat.le_of_ble_eq_true rfl) rfl ?_
  refine k_iload eX12_sumOf_3 rfl ?_
  refine k_istore (L2 := [_, _, _, _, _, _, _, _]) eX12_sumOf_5 (Nat.le_of_ble_eq_true rfl) rfl ?_
  refine lX12_sumOf (by decide) hV hpl hr hdd2 hq hg ?_ ((dd + 1 - g)) 0 (by omega)
  refine k_iload eX12_sumOf_86 rfl ?_
  refine k_ireturn eX12_sumOf_88 rfl rfl ?_
  exact ⟨by rw [smV_T], rfl⟩
theorem smV_w (V : k_V) (r d : Nat) {q : Nat} (hq : q ≤ 2) : smV V r d q 0 = if nI q = 0 then fitv V r d else if nI q = nI 1 then sSum V r d (d + 1) else tSum V r d (d + 1) := by
  rcases (by omega : q = 0 ∨ q = 1 ∨ q = 2) with rfl | rfl | rfl
  · rw [if_pos (show nI 0 = 0 from rfl), smV_fit]
  · rw [if_neg (by decide), if_pos rfl]; rfl
  · rw [if_neg (by decide), if_neg (by decide)]; rfl
set_option maxHeartbeats 400000 in
theorem pX12_fit {S : k_S} {V : k_V} (hV : vM S = V) (hpl : PlanOk V) {rn : Nat} (hrn : S.1 2604 = nI rn) (hrn5 : rn ≤ 5) (x w : Int32) : Sp 3 0 0 MX12_fit [.ref 52, .int (x), .int (w)] (hp S) (Rt (some (.int (aFit V (S.1 2604) x w))) (hp S)) := by
  refine Sp_of (by decide +kernel) (Nat.le_of_ble_eq_true rfl) ?_
  show AW none MX12_fit 3 0 0 0 [.ref 52, .int (x), .int (w)] [] (hp S) _
  refine k_aload_n eX12_fit_0 rfl ?_
  refine k_iload_n eX12_fit_1 rfl ?_
  refine cV1 (M' := MX12_isBoth) eX12_fit_2 mX12_175 wX12_isBoth vX12_isBoth ⟨_, _, _, rfl, rfl, rfl⟩ rfl (pX12_isBoth (S := S) (rn := rn) hrn hrn5 (x)) (by decide) (Nat.le_of_ble_eq_true rfl) ?_
  refine k_ifb_eq 36 eX12_fit_5 (by decide) (fun c_5 => ?_) (fun c_5 => ?_)
  · refine k_ldc eX12_fit_36 kX12_182 rfl ?_
    refine k_ireturn eX12_fit_38 rfl rfl ?_
    exact ⟨by rw [aFit, if_neg (fun q => by first | exact c_5 q.1 | exact c_14 q.2)], rfl⟩
  refine k_iload_n eX12_fit_8 rfl ?_
  refine k_iconst (v := nI 0) eX12_fit_9 (by decide) ?_
  refine k_iconst (v := nI 2) eX12_fit_10 (by decide) ?_
  refine cS1 (M' := MX12_in) eX12_fit_11 mX12_120 wX12_in sX12_in rfl (pX12_in (w) (nI 0) (nI 2)) (by decide) (Nat.le_of_ble_eq_true rfl) ?_
  refine k_ifb_eq 36 eX12_fit_14 (by decide) (fun c_14 => ?_) (fun c_14 => ?_)
  · refine k_ldc eX12_fit_36 kX12_182 rfl ?_
    refine k_ireturn eX12_fit_38 rfl rfl ?_
    exact ⟨by rw [aFit, if_neg (fun q => by first | exact c_5 q.1 | exact c_14 q.2)], rfl⟩
  obtain ⟨z, hz31, rfl, hzr, hzd⟩ := pRD_ex c_5 hrn hrn5
  obtain ⟨q, hq, rfl⟩ := k_rngle c_14.1 c_14.2 (by decide)
  refine k_aload_n eX12_fit_17 rfl ?_
  refine k_iload_n eX12_fit_18 rfl ?_
  refine k_sipush (v := nI 1000) eX12_fit_19 (by decide) ?_
  refine k_idivN eX12_fit_22 (by omega) (by omega) (by omega) ?_
  refine k_iload_n eX12_fit_23 rfl ?_
  refine k_sipush (v := nI 1000) eX12_fit_24 (by decide) ?_
  refine k_iremN eX12_fit_27 (by omega) (by omega) (by omega) ?_
  refine k_iload_n eX12_fit_28 rfl ?_
  refine k_iconst (v := nI 0) eX12_fit_29 (by decide) ?_
  refine cV1 (M' := MX12_sumOf) eX12_fit_30 mX12_178 wX12_sumOf vX12_sumOf ⟨_, _, _, rfl, rfl, rfl⟩ rfl (pX12_sumOf (S := S) (V := V) (r := (z / 1000)) (dd := (z % 1000)) (q := q) (g := 0) hV hpl (by omega) (by omega) (by omega) (by omega)) (by decide) (Nat.le_of_ble_eq_true rfl) ?_
  refine k_goto 38 eX12_fit_33 (by decide) ?_
  refine k_ireturn eX12_fit_38 rfl rfl ?_
  exact ⟨by rw [aFit, if_pos ⟨c_5, c_14⟩, rrN_nI hz31, ddN_nI hz31, smV_w _ _ _ hq], rfl⟩
set_option maxHeartbeats 400000 in
theorem pX12_points {S : k_S} {V : k_V} (hV : vM S = V) {rn : Nat} (hrn : S.1 2604 = nI rn) (hrn5 : rn ≤ 5) {wk : Nat} (hwk : S.1 2600 = nI wk) (hwk1 : 1 ≤ wk) (hwk6 : wk ≤ 6) (x y z : Int32) : Sp 2 0 0 MX12_points [.ref 52, .int (x), .int (y), .int (z)] (hp S) (Rt (some (.int (aPts V (S.1 2604) (S.1 2600) x y z))) (hp S)) := by
  refine Sp_of (by decide +kernel) (Nat.le_of_ble_eq_true rfl) ?_
  show AW none MX12_points 2 0 0 0 [.ref 52, .int (x), .int (y), .int (z)] [] (hp S) _
  refine k_aload_n eX12_points_0 rfl ?_
  refine k_iload_n eX12_points_1 rfl ?_
  refine cV1 (M' := MX12_isRunner) eX12_points_2 mX12_127 wX12_isRunner vX12_isRunner ⟨_, _, _, rfl, rfl, rfl⟩ rfl (pX12_isRunner (S := S) (rn := rn) hrn hrn5 (x)) (by decide) (Nat.le_of_ble_eq_true rfl) ?_
  refine k_ifb_eq 33 eX12_points_5 (by decide) (fun c_5 => ?_) (fun c_5 => ?_)
  · refine k_ldc eX12_points_33 kX12_182 rfl ?_
    refine k_ireturn eX12_points_35 rfl rfl ?_
    exact ⟨by rw [aPts, if_neg (fun q => by first | exact c_5 q.1 | exact c_13 q.2.1 | exact c_20 q.2.2)], rfl⟩
  refine k_aload_n eX12_points_8 rfl ?_
  refine k_iload_n eX12_points_9 rfl ?_
  refine cV1 (M' := MX12_isWork) eX12_points_10 mX12_153 wX12_isWork vX12_isWork ⟨_, _, _, rfl, rfl, rfl⟩ rfl (pX12_isWork (S := S) (wk := wk) hwk hwk6 (y)) (by decide) (Nat.le_of_ble_eq_true rfl) ?_
  refine k_ifb_eq 33 eX12_points_13 (by decide) (fun c_13 => ?_) (fun c_13 => ?_)
  · refine k_ldc eX12_points_33 kX12_182 rfl ?_
    refine k_ireturn eX12_points_35 rfl rfl ?_
    exact ⟨by rw [aPts, if_neg (fun q => by first | exact c_5 q.1 | exact c_13 q.2.1 | exact c_20 q.2.2)], rfl⟩
  refine k_iload_n eX12_points_16 rfl ?_
  refine cS1 (M' := MX12_isDay) eX12_points_17 mX12_131 wX12_isDay sX12_isDay rfl (pX12_isDay (z)) (by decide) (Nat.le_of_ble_eq_true rfl) ?_
  refine k_ifb_eq 33 eX12_points_20 (by decide) (fun c_20 => ?_) (fun c_20 => ?_)
  · refine k_ldc eX12_points_33 kX12_182 rfl ?_
    refine k_ireturn eX12_points_35 rfl rfl ?_
    exact ⟨by rw [aPts, if_neg (fun q => by first | exact c_5 q.1 | exact c_13 q.2.1 | exact c_20 q.2.2)], rfl⟩
  obtain ⟨r, hr, rfl⟩ := pW_ex c_5 hrn (by omega)
  obtain ⟨w, hw, rfl⟩ := pW_ex c_13 hwk (by omega)
  obtain ⟨k, hk, rfl⟩ := pD_ex c_20
  refine k_aload_n eX12_points_23 rfl ?_
  refine k_iload_n eX12_points_24 rfl ?_
  refine k_iload_n eX12_points_25 rfl ?_
  refine k_iload_n eX12_points_26 rfl ?_
  refine cV1 (M' := MX12_pointsOf) eX12_points_27 mX12_172 wX12_pointsOf vX12_pointsOf ⟨_, _, _, rfl, rfl, rfl⟩ rfl (pX12_pointsOf (S := S) (V := V) (r := r) (w := w) (k := k) hV (by omega) (by omega) (by omega)) (by decide) (Nat.le_of_ble_eq_true rfl) ?_
  refine k_goto 35 eX12_points_30 (by decide) ?_
  refine k_ireturn eX12_points_35 rfl rfl ?_
  exact ⟨by rw [aPts, if_pos ⟨c_5, c_13, c_20⟩, ix_nI (by omega), ix_nI (by omega), ix_nI (by omega)], rfl⟩
set_option maxHeartbeats 400000 in
theorem lX12_worthOf {d : Nat} {Po : Option Value → k_H → Prop} (hdd : 2 ≤ d) {S : k_S} {V : k_V} (hV : vM S = V) {dn : Nat} (hdn : S.1 2611 = nI dn) (hcd : CntOk V dn) {r w dd : Nat} (hr : r < 5) (hw : w < 6) (hdd2 : dd < 120) (kx : AW none MX12_worthOf d 0 0 64 [.ref 52, .int (nI r), .int (nI dd), .int (nI w), .int (sumN (fun c => if dd ≤ cN V c then V 8 c * pts V r w (cN V c - dd) else nI 0) dn), .int (nI dn)] [] (hp S) Po) : ∀ (n j : Nat), j + n = dn → AW none MX12_worthOf d 0 0 6 [.ref 52, .int (nI r), .int (nI dd), .int (nI w), .int (sumN (fun c => if dd ≤ cN V c then V 8 c * pts V r w (cN V c - dd) else nI 0) j), .int (nI j)] [] (hp S) Po := by
  intro n
  induction n with
  | zero =>
    intro j hj
    rw [show j = dn by omega]
    have hd4 := hcd.1
    refine k_iload eX12_worthOf_6 rfl ?_
    refine k_aload_n eX12_worthOf_8 rfl ?_
    refine GX12_183 eX12_worthOf_9 rfl ?_
    refine k_topi (nI dn) hdn ?_
    refine k_icmp_geN 64 eX12_worthOf_12 (by decide) (by omega) (by omega) (fun c_12 => ?_) (fun c_12 => by exfalso; omega)
    exact kx
  | succ n ih =>
    intro j hj
    have hd4 := hcd.1
    have hcj := (hcd.2 j (by omega)).2
    refine k_iload eX12_worthOf_6 rfl ?_
    refine k_aload_n eX12_worthOf_8 rfl ?_
    refine GX12_183 eX12_worthOf_9 rfl ?_
    refine k_topi (nI dn) hdn ?_
    refine k_icmp_geN 64 eX12_worthOf_12 (by decide) (by omega) (by omega) (fun c_12 => by exfalso; omega) (fun c_12 => ?_)
    refine k_iload eX12_worthOf_15 rfl ?_
    refine k_aload_n eX12_worthOf_17 rfl ?_
    refine GX12_41 eX12_worthOf_18 rfl ?_
    refine k_iload eX12_worthOf_21 rfl ?_
    refine k_ialdN (j := j) eX12_worthOf_23 (ar62 _) (by omega) (Nat.le_of_ble_eq_true rfl) ?_
    refine k_topi (nI (cN V j)) (mcd hV hcd (by omega)) ?_
    refine k_iload_n eX12_worthOf_24 rfl ?_
    refine k_icmp_ltN 54 eX12_worthOf_25 (by decide) (by omega) (by omega) (fun c_25 => ?_) (fun c_25 => ?_)
    · refine k_iconst (v := nI 0) eX12_worthOf_54 (by decide) ?_
      refine k_iadd eX12_worthOf_55 ?_
      refine k_istore (L2 := [_, _, _, _, _, _]) eX12_worthOf_56 (Nat.le_of_ble_eq_true rfl) rfl ?_
      refine k_iincN (g := 1) (a := j) (L2 := [_, _, _, _, _, _]) eX12_worthOf_58 (Nat.le_of_ble_eq_true rfl) rfl rfl ?_
      refine k_goto 6 eX12_worthOf_61 (by decide) ?_
      have q := ih (j + 1) (by omega)
      rw [sumN_s] at q
      first | (rw [if_pos (by omega)] at q; exact q) | (rw [if_neg (by omega)] at q; exact q)
    refine k_aload_n eX12_worthOf_28 rfl ?_
    refine GX12_44 eX12_worthOf_29 rfl ?_
    refine k_iload eX12_worthOf_32 rfl ?_
    refine k_ialdN (j := j) eX12_worthOf_34 (ar63 _) (by omega) (Nat.le_of_ble_eq_true rfl) ?_
    refine k_topi ((V 8 j)) (congrFun (congrFun hV 8) _) ?_
    refine k_aload_n eX12_worthOf_35 rfl ?_
    refine k_iload_n eX12_worthOf_36 rfl ?_
    refine k_iload_n eX12_worthOf_37 rfl ?_
    refine k_aload_n eX12_worthOf_38 rfl ?_
    refine GX12_41 eX12_worthOf_39 rfl ?_
    refine k_iload eX12_worthOf_42 rfl ?_
    refine k_ialdN (j := j) eX12_worthOf_44 (ar62 _) (by omega) (Nat.le_of_ble_eq_true rfl) ?_
    refine k_topi (nI (cN V j)) (mcd hV hcd (by omega)) ?_
    refine k_iload_n eX12_worthOf_45 rfl ?_
    refine k_isubN eX12_worthOf_46 (by omega) ?_
    refine cV1 (M' := MX12_pointsOf) eX12_worthOf_47 mX12_172 wX12_pointsOf vX12_pointsOf ⟨_, _, _, rfl, rfl, rfl⟩ rfl (pX12_pointsOf (S := S) (V := V) (r := r) (w := w) (k := ((cN V j) - dd)) hV (by omega) (by omega) (by omega)) (by omega) (Nat.le_of_ble_eq_true rfl) ?_
    refine k_imul eX12_worthOf_50 ?_
    refine k_goto 55 eX12_worthOf_51 (by decide) ?_
    refine k_iadd eX12_worthOf_55 ?_
    refine k_istore (L2 := [_, _, _, _, _, _]) eX12_worthOf_56 (Nat.le_of_ble_eq_true rfl) rfl ?_
    refine k_iincN (g := 1) (a := j) (L2 := [_, _, _, _, _, _]) eX12_worthOf_58 (Nat.le_of_ble_eq_true rfl) rfl rfl ?_
    refine k_goto 6 eX12_worthOf_61 (by decide) ?_
    have q := ih (j + 1) (by omega)
    rw [sumN_s] at q
    first | (rw [if_pos (by omega)] at q; exact q) | (rw [if_neg (by omega)] at q; exact q)
set_option maxHeartbeats 400000 in
theorem pX12_worthOf {S : k_S} {V : k_V} (hV : vM S = V) {dn : Nat} (hdn : S.1 2611 = nI dn) (hcd : CntOk V dn) {r w dd : Nat} (hr : r < 5) (hw : w < 6) (hdd2 : dd < 120) : Sp 2 0 0 MX12_worthOf [.ref 52, .int (nI r), .int (nI dd), .int (nI w)] (hp S) (Rt (some (.int (wor V dn r w dd))) (hp S)) := by
  refine Sp_of (by decide +kernel) (Nat.le_of_ble_eq_true rfl) ?_
  show AW none MX12_worthOf 2 0 0 0 [.ref 52, .int (nI r), .int (nI dd), .int (nI w), .null, .null] [] (hp S) _
  refine k_iconst (v := nI 0) eX12_worthOf_0 (by decide) ?_
  refine k_istore (L2 := [_, _, _, _, _, _]) eX12_worthOf_1 (Nat.le_of_ble_eq_true rfl) rfl ?_
  refine k_iconst (v := nI 0) eX12_worthOf_3 (by decide) ?_
  refine k_istore (L2 := [_, _, _, _, _, _]) eX12_worthOf_4 (Nat.le_of_ble_eq_true rfl) rfl ?_
  refine lX12_worthOf (by decide) hV hdn hcd hr hw hdd2 ?_ dn 0 (by omega)
  refine k_iload eX12_worthOf_64 rfl ?_
  refine k_ireturn eX12_worthOf_66 rfl rfl ?_
  exact ⟨rfl, rfl⟩
set_option maxHeartbeats 400000 in
theorem pX12_worth {S : k_S} {V : k_V} (hV : vM S = V) {dn : Nat} (hdn : S.1 2611 = nI dn) (hcd : CntOk V dn) {rn : Nat} (hrn : S.1 2604 = nI rn) (hrn5 : rn ≤ 5) {wk : Nat} (hwk : S.1 2600 = nI wk) (hwk1 : 1 ≤ wk) (hwk6 : wk ≤ 6) (x y : Int32) : Sp 3 0 0 MX12_worth [.ref 52, .int (x), .int (y)] (hp S) (Rt (some (.int (aWor V dn (S.1 2604) (S.1 2600) x y))) (hp S)) := by
  refine Sp_of (by decide +kernel) (Nat.le_of_ble_eq_true rfl) ?_
  show AW none MX12_worth 3 0 0 0 [.ref 52, .int (x), .int (y)] [] (hp S) _
  refine k_aload_n eX12_worth_0 rfl ?_
  refine k_iload_n eX12_worth_1 rfl ?_
  refine cV1 (M' := MX12_isBoth) eX12_worth_2 mX12_175 wX12_isBoth vX12_isBoth ⟨_, _, _, rfl, rfl, rfl⟩ rfl (pX12_isBoth (S := S) (rn := rn) hrn hrn5 (x)) (by decide) (Nat.le_of_ble_eq_true rfl) ?_
  refine k_ifb_eq 34 eX12_worth_5 (by decide) (fun c_5 => ?_) (fun c_5 => ?_)
  · refine k_ldc eX12_worth_34 kX12_182 rfl ?_
    refine k_ireturn eX12_worth_36 rfl rfl ?_
    exact ⟨by rw [aWor, if_neg (fun q => by first | exact c_5 q.1 | exact c_13 q.2)], rfl⟩
  refine k_aload_n eX12_worth_8 rfl ?_
  refine k_iload_n eX12_worth_9 rfl ?_
  refine cV1 (M' := MX12_isWork) eX12_worth_10 mX12_153 wX12_isWork vX12_isWork ⟨_, _, _, rfl, rfl, rfl⟩ rfl (pX12_isWork (S := S) (wk := wk) hwk hwk6 (y)) (by decide) (Nat.le_of_ble_eq_true rfl) ?_
  refine k_ifb_eq 34 eX12_worth_13 (by decide) (fun c_13 => ?_) (fun c_13 => ?_)
  · refine k_ldc eX12_worth_34 kX12_182 rfl ?_
    refine k_ireturn eX12_worth_36 rfl rfl ?_
    exact ⟨by rw [aWor, if_neg (fun q => by first | exact c_5 q.1 | exact c_13 q.2)], rfl⟩
  obtain ⟨z, hz31, rfl, hzr, hzd⟩ := pRD_ex c_5 hrn hrn5
  obtain ⟨w, hw, rfl⟩ := pW_ex c_13 hwk (by omega)
  refine k_aload_n eX12_worth_16 rfl ?_
  refine k_iload_n eX12_worth_17 rfl ?_
  refine k_sipush (v := nI 1000) eX12_worth_18 (by decide) ?_
  refine k_idivN eX12_worth_21 (by omega) (by omega) (by omega) ?_
  refine k_iload_n eX12_worth_22 rfl ?_
  refine k_sipush (v := nI 1000) eX12_worth_23 (by decide) ?_
  refine k_iremN eX12_worth_26 (by omega) (by omega) (by omega) ?_
  refine k_iload_n eX12_worth_27 rfl ?_
  refine cV1 (M' := MX12_worthOf) eX12_worth_28 mX12_186 wX12_worthOf vX12_worthOf ⟨_, _, _, rfl, rfl, rfl⟩ rfl (pX12_worthOf (S := S) (V := V) (dn := dn) (r := (z / 1000)) (w := w) (dd := (z % 1000)) hV hdn hcd (by omega) (by omega) (by omega)) (by decide) (Nat.le_of_ble_eq_true rfl) ?_
  refine k_goto 36 eX12_worth_31 (by decide) ?_
  refine k_ireturn eX12_worth_36 rfl rfl ?_
  exact ⟨by rw [aWor, if_pos ⟨c_5, c_13⟩, rrN_nI hz31, ddN_nI hz31, ix_nI (by omega)], rfl⟩
set_option maxHeartbeats 400000 in
theorem lX12_gainedBy {d : Nat} {Po : Option Value → k_H → Prop} (hdd : 3 ≤ d) {S : k_S} {V : k_V} (hV : vM S = V) {dn : Nat} (hdn : S.1 2611 = nI dn) (hcd : CntOk V dn) (hpl : PlanOk V) (h0 : RstOk V) {r : Nat} (hr : r < 5) (kx : AW none MX12_gainedBy d 0 0 44 [.ref 52, .int (nI r), .int (gai V dn r 120), .int (nI 120)] [] (hp S) Po) : ∀ (n j : Nat), j + n = 120 → AW none MX12_gainedBy d 0 0 4 [.ref 52, .int (nI r), .int (gai V dn r j), .int (nI j)] [] (hp S) Po := by
  intro n
  induction n with
  | zero =>
    intro j hj
    rw [show j = 120 by omega]
    refine k_iload_n eX12_gainedBy_4 rfl ?_
    refine k_bipush (v := nI 120) eX12_gainedBy_5 (by decide) ?_
    refine k_icmp_geN 44 eX12_gainedBy_7 (by decide) (by omega) (by omega) (fun c_7 => ?_) (fun c_7 => by exfalso; omega)
    exact kx
  | succ n ih =>
    intro j hj
    have hpw := hpl.lt (d := j) (by omega)
    refine k_iload_n eX12_gainedBy_4 rfl ?_
    refine k_bipush (v := nI 120) eX12_gainedBy_5 (by decide) ?_
    refine k_icmp_geN 44 eX12_gainedBy_7 (by decide) (by omega) (by omega) (fun c_7 => by exfalso; omega) (fun c_7 => ?_)
    refine k_iload_n eX12_gainedBy_10 rfl ?_
    refine k_aload_n eX12_gainedBy_11 rfl ?_
    refine GX12_38 eX12_gainedBy_12 rfl ?_
    refine k_iload_n eX12_gainedBy_15 rfl ?_
    refine k_ialdN (j := j) eX12_gainedBy_16 (ar61 _) (by omega) (Nat.le_of_ble_eq_true rfl) ?_
    refine k_topi (nI (pw V j)) (mpl hV hpl (by omega)) ?_
    refine k_if_neN 24 eX12_gainedBy_17 (by decide) (by omega) (fun c_17 => ?_) (fun c_17 => ?_)
    · refine k_aload_n eX12_gainedBy_24 rfl ?_
      refine k_iload_n eX12_gainedBy_25 rfl ?_
      refine k_iload_n eX12_gainedBy_26 rfl ?_
      refine k_aload_n eX12_gainedBy_27 rfl ?_
      refine GX12_38 eX12_gainedBy_28 rfl ?_
      refine k_iload_n eX12_gainedBy_31 rfl ?_
      refine k_ialdN (j := j) eX12_gainedBy_32 (ar61 _) (by omega) (Nat.le_of_ble_eq_true rfl) ?_
      refine k_topi (nI (pw V j)) (mpl hV hpl (by omega)) ?_
      refine cV1 (M' := MX12_worthOf) eX12_gainedBy_33 mX12_186 wX12_worthOf vX12_worthOf ⟨_, _, _, rfl, rfl, rfl⟩ rfl (pX12_worthOf (S := S) (V := V) (dn := dn) (r := r) (w := (pw V j)) (dd := j) hV hdn hcd (by omega) (by omega) (by omega)) (by omega) (Nat.le_of_ble_eq_true rfl) ?_
      refine k_iadd eX12_gainedBy_36 ?_
      refine k_istore_n (L2 := [_, _, _, _]) eX12_gainedBy_37 (Nat.le_of_ble_eq_true rfl) rfl ?_
      refine k_iincN (g := 1) (a := j) (L2 := [_, _, _, _]) eX12_gainedBy_38 (Nat.le_of_ble_eq_true rfl) rfl rfl ?_
      refine k_goto 4 eX12_gainedBy_41 (by decide) ?_
      have q := ih (j + 1) (by omega)
      rw [gai, sumN_s] at q
      first | exact q | (rw [show pw V j = 0 by omega, wor_0 h0] at q; exact q)
    refine k_iconst (v := nI 0) eX12_gainedBy_20 (by decide) ?_
    refine k_goto 36 eX12_gainedBy_21 (by decide) ?_
    refine k_iadd eX12_gainedBy_36 ?_
    refine k_istore_n (L2 := [_, _, _, _]) eX12_gainedBy_37 (Nat.le_of_ble_eq_true rfl) rfl ?_
    refine k_iincN (g := 1) (a := j) (L2 := [_, _, _, _]) eX12_gainedBy_38 (Nat.le_of_ble_eq_true rfl) rfl rfl ?_
    refine k_goto 4 eX12_gainedBy_41 (by decide) ?_
    have q := ih (j + 1) (by omega)
    rw [gai, sumN_s] at q
    first | exact q | (rw [show pw V j = 0 by omega, wor_0 h0] at q; exact q)
set_option maxHeartbeats 400000 in
theorem pX12_gainedBy {S : k_S} {V : k_V} (hV : vM S = V) {dn : Nat} (hdn : S.1 2611 = nI dn) (hcd : CntOk V dn) (hpl : PlanOk V) (h0 : RstOk V) {r : Nat} (hr : r < 5) : Sp 3 0 0 MX12_gainedBy [.ref 52, .int (nI r)] (hp S) (Rt (some (.int (gai V dn r 120))) (hp S)) := by
  refine Sp_of (by decide +kernel) (Nat.le_of_ble_eq_true rfl) ?_
  show AW none MX12_gainedBy 3 0 0 0 [.ref 52, .int (nI r), .null, .null] [] (hp S) _
  refine k_iconst (v := nI 0) eX12_gainedBy_0 (by decide) ?_
  refine k_istore_n (L2 := [_, _, _, _]) eX12_gainedBy_1 (Nat.le_of_ble_eq_true rfl) rfl ?_
  refine k_iconst (v := nI 0) eX12_gainedBy_2 (by decide) ?_
  refine k_istore_n (L2 := [_, _, _, _]) eX12_gainedBy_3 (Nat.le_of_ble_eq_true rfl) rfl ?_
  refine lX12_gainedBy (by decide) hV hdn hcd hpl h0 hr ?_ 120 0 (by omega)
  refine k_iload_n eX12_gainedBy_44 rfl ?_
  refine k_ireturn eX12_gainedBy_45 rfl rfl ?_
  exact ⟨rfl, rfl⟩
set_option maxHeartbeats 400000 in
theorem pX12_gained {S : k_S} {V : k_V} (hV : vM S = V) {dn : Nat} (hdn : S.1 2611 = nI dn) (hcd : CntOk V dn) (hpl : PlanOk V) (h0 : RstOk V) {rn : Nat} (hrn : S.1 2604 = nI rn) (hrn5 : rn ≤ 5) (x : Int32) : Sp 4 0 0 MX12_gained [.ref 52, .int (x)] (hp S) (Rt (some (.int (aGai V dn (S.1 2604) x))) (hp S)) := by
  refine Sp_of (by decide +kernel) (Nat.le_of_ble_eq_true rfl) ?_
  show AW none MX12_gained 4 0 0 0 [.ref 52, .int (x)] [] (hp S) _
  refine k_aload_n eX12_gained_0 rfl ?_
  refine k_iload_n eX12_gained_1 rfl ?_
  refine cV1 (M' := MX12_isRunner) eX12_gained_2 mX12_127 wX12_isRunner vX12_isRunner ⟨_, _, _, rfl, rfl, rfl⟩ rfl (pX12_isRunner (S := S) (rn := rn) hrn hrn5 (x)) (by decide) (Nat.le_of_ble_eq_true rfl) ?_
  refine k_ifb_eq 16 eX12_gained_5 (by decide) (fun c_5 => ?_) (fun c_5 => ?_)
  · refine k_ldc eX12_gained_16 kX12_182 rfl ?_
    refine k_ireturn eX12_gained_18 rfl rfl ?_
    exact ⟨by rw [aGai, if_neg c_5], rfl⟩
  obtain ⟨r, hr, rfl⟩ := pW_ex c_5 hrn (by omega)
  refine k_aload_n eX12_gained_8 rfl ?_
  refine k_iload_n eX12_gained_9 rfl ?_
  refine cV1 (M' := MX12_gainedBy) eX12_gained_10 mX12_189 wX12_gainedBy vX12_gainedBy ⟨_, _, _, rfl, rfl, rfl⟩ rfl (pX12_gainedBy (S := S) (V := V) (dn := dn) (r := r) hV hdn hcd hpl h0 (by omega)) (by decide) (Nat.le_of_ble_eq_true rfl) ?_
  refine k_goto 18 eX12_gained_13 (by decide) ?_
  refine k_ireturn eX12_gained_18 rfl rfl ?_
  exact ⟨by rw [aGai, if_pos c_5, ix_nI (by omega)], rfl⟩
