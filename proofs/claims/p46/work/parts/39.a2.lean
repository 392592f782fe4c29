def wkU (S : k_S) (wk : Nat) (t s l : Int32) : k_S := if wk = 6 then S else wkAdd S wk t s l
def rnU (S : k_S) (rn : Nat) (f s g : Int32) : k_S := if rn = 5 then S else rnAdd S rn f s g
def rcU (S : k_S) (dn : Nat) (d w : Int32) : k_S := if dn = 4 then S else rcAdd S dn d w
def fulV (n m : Nat) (v : Int32) : Int32 := if n = m then -3 else v
theorem uX10_add {S : k_S} {wk : Nat} (hwk : S.1 803 = nI wk) (hwk6 : wk ≤ 6) (t s l : Int32) : ∃ du, du ≤ 1 ∧ Sp du 0 0 MX10_add [.ref 16, .int t, .int s, .int l] (hp S) (Rt (some (.int (fulV wk 6 (nI wk)))) (hp (wkU S wk t s l))) := by
  by_cases h : wk = 6
  · rw [fulV, wkU, if_pos h, if_pos h]; exact ⟨_, by decide, pX10_addF hwk h t s l⟩
  · rw [fulV, wkU, if_neg h, if_neg h]; exact ⟨_, by decide, pX10_add hwk (by omega) t s l⟩
theorem uX8_add {S : k_S} {rn : Nat} (hrn : S.1 1003 = nI rn) (hrn5 : rn ≤ 5) (f s g : Int32) : ∃ du, du ≤ 2 ∧ Sp du 0 0 MX8_add [.ref 20, .int f, .int s, .int g] (hp S) (Rt (some (.int (fulV rn 5 (nI rn)))) (hp (rnU S rn f s g))) := by
  by_cases h : rn = 5
  · rw [fulV, rnU, if_pos h, if_pos h]; exact ⟨_, by decide, pX8_addF hrn h f s g⟩
  · rw [fulV, rnU, if_neg h, if_neg h]; exact ⟨_, by decide, pX8_add hrn (by omega) f s g⟩
theorem uX5_add {S : k_S} {dn : Nat} (hdn : S.1 1302 = nI dn) (hd4 : dn ≤ 4) (d w : Int32) : ∃ du, du ≤ 1 ∧ Sp du 0 0 MX5_add [.ref 26, .int d, .int w] (hp S) (Rt (some (.int (fulV dn 4 (nI (dn + 1))))) (hp (rcU S dn d w))) := by
  by_cases h : dn = 4
  · rw [fulV, rcU, if_pos h, if_pos h]; exact ⟨_, by decide, pX5_addF hdn h d w⟩
  · rw [fulV, rcU, if_neg h, if_neg h]; exact ⟨_, by decide, pX5_add hdn (by omega) d w⟩
def aWork (wk : Nat) (x : Int32) : Int32 := if ¬ x < 0 ∧ x ≤ nI 99999 then fulV wk 6 (nI wk) else -1
def sWork (S : k_S) (wk : Nat) (x : Int32) : k_S := if ¬ x < 0 ∧ x ≤ nI 99999 then wkU S wk (x / nI 1000) (rm (x / nI 10) (nI 100)) (rm x (nI 10)) else S
abbrev pRun (x g : Int32) : Prop := (¬ x < 0 ∧ pIn (x / nI 1000) (nI 1) (nI 999) ∧ pIn (rm x (nI 1000)) (nI 1) (nI 999)) ∧ pIn g (nI 500) (nI 1500)
def aRun (rn : Nat) (x g : Int32) : Int32 := if pRun x g then fulV rn 5 (nI rn) else -1
def sRun (S : k_S) (rn : Nat) (x g : Int32) : k_S := if pRun x g then rnU S rn (x / nI 1000) (rm x (nI 1000)) g else S
abbrev pCnt (f : Nat → Int32) (dn : Nat) (x w : Int32) : Prop := pD x ∧ pIn w (nI 1) (nI 9) ∧ ¬ tld f x dn = true
def aCnt (f : Nat → Int32) (dn : Nat) (x w : Int32) : Int32 := if pCnt f dn x w then fulV dn 4 (nI (dn + 1)) else -1
def sCnt (S : k_S) (dn : Nat) (x w : Int32) : k_S := if pCnt (S.2.1 27) dn x w then rcU S dn x w else S
def aLost (lo x : Int32) : Int32 := if pIn x (nI 1) (nI 60) then lo else -1
def sLost (S : k_S) (x : Int32) : k_S := if pIn x (nI 1) (nI 60) then si S 1907 x else S
set_option maxHeartbeats 400000 in
theorem pX11_work {S : k_S} {wk : Nat} (hwk : S.1 803 = nI wk) (hwk1 : 1 ≤ wk) (hwk6 : wk ≤ 6) (x : Int32) : Sp 2 0 0 MX11_work [.ref 0, .int (x)] (hp S) (Rt (some (.int (aWork wk x))) (hp (sWork S wk x))) := by
  refine Sp_of (by decide +kernel) (Nat.le_of_ble_eq_true rfl) ?_
  show AW none MX11_work 2 0 0 0 [.ref 0, .int (x)] [] (hp S) _
  refine k_iload_n eX11_work_0 rfl ?_
  refine k_if_lt 10 eX11_work_1 (by decide) (fun c_1 => ?_) (fun c_1 => ?_)
  · refine k_iconst (v := (-1)) eX11_work_10 (by decide) ?_
    refine k_ireturn eX11_work_11 rfl rfl ?_
    exact ⟨by rw [aWork, if_neg (fun q => by first | exact q.1 c_1 | exact c_7 q.2)], by rw [sWork, if_neg (fun q => by first | exact q.1 c_1 | exact c_7 q.2)]⟩
  refine k_iload_n eX11_work_4 rfl ?_
  refine k_ldc eX11_work_5 kX11_105 rfl ?_
  refine k_topi (nI 99999) (by decide) ?_
  refine k_icmp_le 12 eX11_work_7 (by decide) (fun c_7 => ?_) (fun c_7 => ?_)
  · refine k_aload_n eX11_work_12 rfl ?_
    refine GX11_67 eX11_work_13 rfl ?_
    refine k_iload_n eX11_work_16 rfl ?_
    refine k_sipush (v := nI 1000) eX11_work_17 (by decide) ?_
    refine k_idiv eX11_work_20 (by decide) ?_
    refine k_iload_n eX11_work_21 rfl ?_
    refine k_bipush (v := nI 10) eX11_work_22 (by decide) ?_
    refine k_idiv eX11_work_24 (by decide) ?_
    refine k_bipush (v := nI 100) eX11_work_25 (by decide) ?_
    refine k_irem eX11_work_27 (by decide) ?_
    refine k_iload_n eX11_work_28 rfl ?_
    refine k_bipush (v := nI 10) eX11_work_29 (by decide) ?_
    refine k_irem eX11_work_31 (by decide) ?_
    obtain ⟨du, hdu, hu⟩ := uX10_add (S := S) hwk hwk6 ((x / nI 1000)) (((x / nI 10) - (x / nI 10) / nI 100 * nI 100)) ((x - x / nI 10 * nI 10))
    refine cV1 (M' := MX10_add) eX11_work_32 mX11_106 wX10_add vX10_add ⟨_, _, _, rfl, rfl, rfl⟩ rfl (hu) (by omega) (Nat.le_of_ble_eq_true rfl) ?_
    refine k_ireturn eX11_work_35 rfl rfl ?_
    exact ⟨by rw [aWork, if_pos ⟨c_1, c_7⟩], by rw [sWork, if_pos ⟨c_1, c_7⟩]⟩
  refine k_iconst (v := (-1)) eX11_work_10 (by decide) ?_
  refine k_ireturn eX11_work_11 rfl rfl ?_
  exact ⟨by rw [aWork, if_neg (fun q => by first | exact q.1 c_1 | exact c_7 q.2)], by rw [sWork, if_neg (fun q => by first | exact q.1 c_1 | exact c_7 q.2)]⟩
set_option maxHeartbeats 400000 in
theorem pX11_runner {S : k_S} {rn : Nat} (hrn : S.1 1003 = nI rn) (hrn5 : rn ≤ 5) (x g : Int32) : Sp 3 0 0 MX11_runner [.ref 0, .int (x), .int (g)] (hp S) (Rt (some (.int (aRun rn x g))) (hp (sRun S rn x g))) := by
  refine Sp_of (by decide +kernel) (Nat.le_of_ble_eq_true rfl) ?_
  show AW none MX11_runner 3 0 0 0 [.ref 0, .int (x), .int (g)] [] (hp S) _
  refine k_iload_n eX11_runner_0 rfl ?_
  refine k_if_lt 34 eX11_runner_1 (by decide) (fun c_1 => ?_) (fun c_1 => ?_)
  · refine k_iconst (v := (-1)) eX11_runner_34 (by decide) ?_
    refine k_ireturn eX11_runner_35 rfl rfl ?_
    exact ⟨by rw [aRun, if_neg (fun q => by first | exact q.1.1 c_1 | exact c_16 q.1.2.1 | exact c_31 q.1.2.2 | exact c_46 q.2)], by rw [sRun, if_neg (fun q => by first | exact q.1.1 c_1 | exact c_16 q.1.2.1 | exact c_31 q.1.2.2 | exact c_46 q.2)]⟩
  refine k_iload_n eX11_runner_4 rfl ?_
  refine k_sipush (v := nI 1000) eX11_runner_5 (by decide) ?_
  refine k_idiv eX11_runner_8 (by decide) ?_
  refine k_iconst (v := nI 1) eX11_runner_9 (by decide) ?_
  refine k_sipush (v := nI 999) eX11_runner_10 (by decide) ?_
  refine cS1 (M' := MX11_within) eX11_runner_13 mX11_114 wX11_within sX11_within rfl (pX11_within ((x / nI 1000)) (nI 1) (nI 999)) (by omega) (Nat.le_of_ble_eq_true rfl) ?_
  refine k_ifb_eq 34 eX11_runner_16 (by decide) (fun c_16 => ?_) (fun c_16 => ?_)
  · refine k_iconst (v := (-1)) eX11_runner_34 (by decide) ?_
    refine k_ireturn eX11_runner_35 rfl rfl ?_
    exact ⟨by rw [aRun, if_neg (fun q => by first | exact q.1.1 c_1 | exact c_16 q.1.2.1 | exact c_31 q.1.2.2 | exact c_46 q.2)], by rw [sRun, if_neg (fun q => by first | exact q.1.1 c_1 | exact c_16 q.1.2.1 | exact c_31 q.1.2.2 | exact c_46 q.2)]⟩
  refine k_iload_n eX11_runner_19 rfl ?_
  refine k_sipush (v := nI 1000) eX11_runner_20 (by decide) ?_
  refine k_irem eX11_runner_23 (by decide) ?_
  refine k_iconst (v := nI 1) eX11_runner_24 (by decide) ?_
  refine k_sipush (v := nI 999) eX11_runner_25 (by decide) ?_
  refine cS1 (M' := MX11_within) eX11_runner_28 mX11_114 wX11_within sX11_within rfl (pX11_within ((x - x / nI 1000 * nI 1000)) (nI 1) (nI 999)) (by omega) (Nat.le_of_ble_eq_true rfl) ?_
  refine k_ifb_ne 36 eX11_runner_31 (by decide) (fun c_31 => ?_) (fun c_31 => ?_)
  · refine k_iload_n eX11_runner_36 rfl ?_
    refine k_sipush (v := nI 500) eX11_runner_37 (by decide) ?_
    refine k_sipush (v := nI 1500) eX11_runner_40 (by decide) ?_
    refine cS1 (M' := MX11_within) eX11_runner_43 mX11_114 wX11_within sX11_within rfl (pX11_within (g) (nI 500) (nI 1500)) (by omega) (Nat.le_of_ble_eq_true rfl) ?_
    refine k_ifb_ne 51 eX11_runner_46 (by decide) (fun c_46 => ?_) (fun c_46 => ?_)
    · refine k_aload_n eX11_runner_51 rfl ?_
      refine GX11_71 eX11_runner_52 rfl ?_
      refine k_iload_n eX11_runner_55 rfl ?_
      refine k_sipush (v := nI 1000) eX11_runner_56 (by decide) ?_
      refine k_idiv eX11_runner_59 (by decide) ?_
      refine k_iload_n eX11_runner_60 rfl ?_
      refine k_sipush (v := nI 1000) eX11_runner_61 (by decide) ?_
      refine k_irem eX11_runner_64 (by decide) ?_
      refine k_iload_n eX11_runner_65 rfl ?_
      obtain ⟨du, hdu, hu⟩ := uX8_add (S := S) hrn hrn5 ((x / nI 1000)) ((x - x / nI 1000 * nI 1000)) (g)
      refine cV1 (M' := MX8_add) eX11_runner_66 mX11_121 wX8_add vX8_add ⟨_, _, _, rfl, rfl, rfl⟩ rfl (hu) (by omega) (Nat.le_of_ble_eq_true rfl) ?_
      refine k_ireturn eX11_runner_69 rfl rfl ?_
      exact ⟨by rw [aRun, if_pos ⟨⟨c_1, c_16, c_31⟩, c_46⟩], by rw [sRun, if_pos ⟨⟨c_1, c_16, c_31⟩, c_46⟩]⟩
    refine k_iconst (v := (-1)) eX11_runner_49 (by decide) ?_
    refine k_ireturn eX11_runner_50 rfl rfl ?_
    exact ⟨by rw [aRun, if_neg (fun q => by first | exact q.1.1 c_1 | exact c_16 q.1.2.1 | exact c_31 q.1.2.2 | exact c_46 q.2)], by rw [sRun, if_neg (fun q => by first | exact q.1.1 c_1 | exact c_16 q.1.2.1 | exact c_31 q.1.2.2 | exact c_46 q.2)]⟩
  refine k_iconst (v := (-1)) eX11_runner_34 (by decide) ?_
  refine k_ireturn eX11_runner_35 rfl rfl ?_
  exact ⟨by rw [aRun, if_neg (fun q => by first | exact q.1.1 c_1 | exact c_16 q.1.2.1 | exact c_31 q.1.2.2 | exact c_46 q.2)], by rw [sRun, if_neg (fun q => by first | exact q.1.1 c_1 | exact c_16 q.1.2.1 | exact c_31 q.1.2.2 | exact c_46 q.2)]⟩
set_option maxHeartbeats 400000 in
theorem pX11_counts {S : k_S} {dn : Nat} (hdn : S.1 1302 = nI dn) (hd4 : dn ≤ 4) (x w : Int32) : Sp 3 0 0 MX11_counts [.ref 0, .int (x), .int (w)] (hp S) (Rt (some (.int (aCnt (S.2.1 27) dn x w))) (hp (sCnt S dn x w))) := by
  refine Sp_of (by decide +kernel) (Nat.le_of_ble_eq_true rfl) ?_
  show AW none MX11_counts 3 0 0 0 [.ref 0, .int (x), .int (w)] [] (hp S) _
  refine k_iload_n eX11_counts_0 rfl ?_
  refine cS1 (M' := MX11_isDay) eX11_counts_1 mX11_122 wX11_isDay sX11_isDay rfl (pX11_isDay (x)) (by omega) (Nat.le_of_ble_eq_true rfl) ?_
  refine k_ifb_eq 28 eX11_counts_4 (by decide) (fun c_4 => ?_) (fun c_4 => ?_)
  · refine k_iconst (v := (-1)) eX11_counts_28 (by decide) ?_
    refine k_ireturn eX11_counts_29 rfl rfl ?_
    exact ⟨by rw [aCnt, if_neg (fun q => by first | exact c_4 q.1 | exact c_14 q.2.1 | exact q.2.2 c_25)], by rw [sCnt, if_neg (fun q => by first | exact c_4 q.1 | exact c_14 q.2.1 | exact q.2.2 c_25)]⟩
  refine k_iload_n eX11_counts_7 rfl ?_
  refine k_iconst (v := nI 1) eX11_counts_8 (by decide) ?_
  refine k_bipush (v := nI 9) eX11_counts_9 (by decide) ?_
  refine cS1 (M' := MX11_within) eX11_counts_11 mX11_114 wX11_within sX11_within rfl (pX11_within (w) (nI 1) (nI 9)) (by omega) (Nat.le_of_ble_eq_true rfl) ?_
  refine k_ifb_eq 28 eX11_counts_14 (by decide) (fun c_14 => ?_) (fun c_14 => ?_)
  · refine k_iconst (v := (-1)) eX11_counts_28 (by decide) ?_
    refine k_ireturn eX11_counts_29 rfl rfl ?_
    exact ⟨by rw [aCnt, if_neg (fun q => by first | exact c_4 q.1 | exact c_14 q.2.1 | exact q.2.2 c_25)], by rw [sCnt, if_neg (fun q => by first | exact c_4 q.1 | exact c_14 q.2.1 | exact q.2.2 c_25)]⟩
  refine k_aload_n eX11_counts_17 rfl ?_
  refine GX11_79 eX11_counts_18 rfl ?_
  refine k_iload_n eX11_counts_21 rfl ?_
  refine cV1 (M' := MX5_isTold) eX11_counts_22 mX11_179 wX5_isTold vX5_isTold ⟨_, _, _, rfl, rfl, rfl⟩ rfl (pX5_isTold (S := S) (dn := dn) hdn hd4 (x)) (by omega) (Nat.le_of_ble_eq_true rfl) ?_
  refine k_ifb_eq 30 eX11_counts_25 (by decide) (fun c_25 => ?_) (fun c_25 => ?_)
  · refine k_aload_n eX11_counts_30 rfl ?_
    refine GX11_79 eX11_counts_31 rfl ?_
    refine k_iload_n eX11_counts_34 rfl ?_
    refine k_iload_n eX11_counts_35 rfl ?_
    obtain ⟨du, hdu, hu⟩ := uX5_add (S := S) hdn hd4 (x) (w)
    refine cV1 (M' := MX5_add) eX11_counts_36 mX11_182 wX5_add vX5_add ⟨_, _, _, rfl, rfl, rfl⟩ rfl (hu) (by omega) (Nat.le_of_ble_eq_true rfl) ?_
    refine k_ireturn eX11_counts_39 rfl rfl ?_
    exact ⟨by rw [aCnt, if_pos ⟨c_4, c_14, c_25⟩], by rw [sCnt, if_pos ⟨c_4, c_14, c_25⟩]⟩
  refine k_iconst (v := (-1)) eX11_counts_28 (by decide) ?_
  refine k_ireturn eX11_counts_29 rfl rfl ?_
  exact ⟨by rw [aCnt, if_neg (fun q => by first | exact c_4 q.1 | exact c_14 q.2.1 | exact q.2.2 c_25)], by rw [sCnt, if_neg (fun q => by first | exact c_4 q.1 | exact c_14 q.2.1 | exact q.2.2 c_25)]⟩
set_option maxHeartbeats 400000 in
theorem pX11_lost {S : k_S} (x : Int32) : Sp 1 0 0 MX11_lost [.ref 0, .int (x)] (hp S) (Rt (some (.int (aLost (S.1 1907) x))) (hp (sLost S x))) := by
  refine Sp_of (by decide +kernel) (Nat.le_of_ble_eq_true rfl) ?_
  show AW none MX11_lost 1 0 0 0 [.ref 0, .int (x), .null] [] (hp S) _
  refine k_iload_n eX11_lost_0 rfl ?_
  refine k_iconst (v := nI 1) eX11_lost_1 (by decide) ?_
  refine k_bipush (v := nI 60) eX11_lost_2 (by decide) ?_
  refine cS1 (M' := MX11_within) eX11_lost_4 mX11_114 wX11_within sX11_within rfl (pX11_within (x) (nI 1) (nI 60)) (by decide) (Nat.le_of_ble_eq_true rfl) ?_
  refine k_ifb_ne 12 eX11_lost_7 (by decide) (fun c_7 => ?_) (fun c_7 => ?_)
  · refine k_aload_n eX11_lost_12 rfl ?_
    refine GX11_101 eX11_lost_13 rfl ?_
    refine GX11_247 eX11_lost_16 rfl ?_
    refine k_istore_n (L2 := [_, _, _]) eX11_lost_19 (Nat.le_of_ble_eq_true rfl) rfl ?_
    refine k_aload_n eX11_lost_20 rfl ?_
    refine GX11_101 eX11_lost_21 rfl ?_
    refine k_iload_n eX11_lost_24 rfl ?_
    refine PX11_247 eX11_lost_25 rfl ?_
    refine k_iload_n eX11_lost_28 rfl ?_
    refine k_ireturn eX11_lost_29 rfl rfl ?_
    exact ⟨by rw [aLost, if_pos c_7], by rw [sLost, if_pos c_7]⟩
  refine k_iconst (v := (-1)) eX11_lost_10 (by decide) ?_
  refine k_ireturn eX11_lost_11 rfl rfl ?_
  exact ⟨by rw [aLost, if_neg c_7], by rw [sLost, if_neg c_7]⟩
abbrev pTst (x f : Int32) : Prop := pD x ∧ pIn f (-9999) (nI 9999)
def aTst (tn : Nat) (x f : Int32) : Int32 := if pTst x f then fulV tn 10 (nI tn) else -1
def tsU (S : k_S) (tn : Nat) (x f : Int32) : k_S := si (sa (sa S 13 (va_up (S.2.1 13) tn x)) 14 (va_up (S.2.1 14) tn f)) 14 (nI (tn + 1))
def sTst (S : k_S) (tn : Nat) (x f : Int32) : k_S := if pTst x f then (if tn = 10 then S else tsU S tn x f) else S
def tlU (S : k_S) (n a s p : Nat) (v : Int32) : k_S := if S.2.1 a p = v then S else if n = 40 then sa (chP (drS (si S 1657 (nI 0))) 39 s p (S.2.1 a p) v) a (va_up (S.2.1 a) p v) else sa (chP (si S 1657 (nI 0)) n s p (S.2.1 a p) v) a (va_up (S.2.1 a) p v)
theorem uX1_tell0 {S : k_S} {p n : Nat} (hpp : p < 120) (hn : S.1 1656 = nI n) (hn40 : n ≤ 40) (v : Int32) : ∃ du, du ≤ 3 ∧ Sp du 0 0 MX1_tell [.ref 33, .int (nI 0), .int (nI p), .int v] (hp S) (Rt (some (.int (S.2.1 25 p))) (hp (tlU S n 25 0 p v))) := by
  by_cases h : S.2.1 25 p = v
  · rw [tlU, if_pos h, h]; exact ⟨_, by decide, pX1_tell0s hpp v h⟩
  · by_cases h2 : n = 40
    · rw [tlU, if_neg h, if_pos h2]; subst h2; exact ⟨_, by decide, pX1_tell0f hpp v h hn⟩
    · rw [tlU, if_neg h, if_neg h2]; exact ⟨_, by decide, pX1_tell0n hpp v h hn (by omega)⟩
theorem uX1_tell1 {S : k_S} {p n : Nat} (hpp : p < 6) (hn : S.1 1656 = nI n) (hn40 : n ≤ 40) (v : Int32) : ∃ du, du ≤ 2 ∧ Sp du 0 0 MX1_tell [.ref 33, .int (nI 1), .int (nI p), .int v] (hp S) (Rt (some (.int (S.2.1 17 p))) (hp (tlU S n 17 1 p v))) := by
  by_cases h : S.2.1 17 p = v
  · rw [tlU, if_pos h, h]; exact ⟨_, by decide, pX1_tell1s hpp v h⟩
  · by_cases h2 : n = 40
    · rw [tlU, if_neg h, if_pos h2]; subst h2; exact ⟨_, by decide, pX1_tell1f hpp v h hn⟩
    · rw [tlU, if_neg h, if_neg h2]; exact ⟨_, by decide, pX1_tell1n hpp v h hn (by omega)⟩
theorem uX1_tell2 {S : k_S} {p n : Nat} (hpp : p < 6) (hn : S.1 1656 = nI n) (hn40 : n ≤ 40) (v : Int32) : ∃ du, du ≤ 2 ∧ Sp du 0 0 MX1_tell [.ref 33, .int (nI 2), .int (nI p), .int v] (hp S) (Rt (some (.int (S.2.1 18 p))) (hp (tlU S n 18 2 p v))) := by
  by_cases h : S.2.1 18 p = v
  · rw [tlU, if_pos h, h]; exact ⟨_, by decide, pX1_tell2s hpp v h⟩
  · by_cases h2 : n = 40
    · rw [tlU, if_neg h, if_pos h2]; subst h2; exact ⟨_, by decide, pX1_tell2f hpp v h hn⟩
    · rw [tlU, if_neg h, if_neg h2]; exact ⟨_, by decide, pX1_tell2n hpp v h hn (by omega)⟩
def aPln (f : Nat → Int32) (kw x v : Int32) : Int32 := if pD x ∧ pW kw v then f (ix x) else -1
def sPln (S : k_S) (n : Nat) (x v : Int32) : k_S := if pD x ∧ pW (S.1 803) v then tlU S n 25 0 (ix x) v else S
abbrev pMnd (kw w t v : Int32) : Prop := ¬ w = 0 ∧ pW kw w ∧ pIn t (nI 0) (nI 1) ∧ pIn v (nI 0) (nI 99)
def aMnd (f g : Nat → Int32) (kw w t v : Int32) : Int32 := if pMnd kw w t v then (if t = 0 then f (ix w) else g (ix w)) else -1
def sMnd (S : k_S) (n : Nat) (w t v : Int32) : k_S := if pMnd (S.1 803) w t v then (if t = 0 then tlU S n 17 1 (ix w) v else tlU S n 18 2 (ix w) v) else S
set_option maxHeartbeats 400000 in
theorem pX11_plan {S : k_S} {n : Nat} (hn : S.1 1656 = nI n) (hn40 : n ≤ 40) (x v : Int32) : Sp 4 0 0 MX11_plan [.ref 0, .int (x), .int (v)] (hp S) (Rt (some (.int (aPln (S.2.1 25) (S.1 803) x v))) (hp (sPln S n x v))) := by
  refine Sp_of (by decide +kernel) (Nat.le_of_ble_eq_true rfl) ?_
  show AW none MX11_plan 4 0 0 0 [.ref 0, .int (x), .int (v)] [] (hp S) _
  refine k_iload_n eX11_plan_0 rfl ?_
  refine cS1 (M' := MX11_isDay) eX11_plan_1 mX11_122 wX11_isDay sX11_isDay rfl (pX11_isDay (x)) (by omega) (Nat.le_of_ble_eq_true rfl) ?_
  refine k_ifb_eq 18 eX11_plan_4 (by decide) (fun c_4 => ?_) (fun c_4 => ?_)
  · refine k_iconst (v := (-1)) eX11_plan_18 (by decide) ?_
    refine k_ireturn eX11_plan_19 rfl rfl ?_
    exact ⟨by rw [aPln, if_neg (fun q => by first | exact c_4 q.1 | exact c_15 q.2)], by rw [sPln, if_neg (fun q => by first | exact c_4 q.1 | exact c_15 q.2)]⟩
  refine k_aload_n eX11_plan_7 rfl ?_
  refine GX11_67 eX11_plan_8 rfl ?_
  refine k_iload_n eX11_plan_11 rfl ?_
  refine cV1 (M' := MX10_has) eX11_plan_12 mX11_110 wX10_has vX10_has ⟨_, _, _, rfl, rfl, rfl⟩ rfl (pX10_has (S := S) (v)) (by omega) (Nat.le_of_ble_eq_true rfl) ?_
  refine k_ifb_ne 20 eX11_plan_15 (by decide) (fun c_15 => ?_) (fun c_15 => ?_)
  · obtain ⟨j, hj, rfl⟩ := pD_ex c_4
    refine k_aload_n eX11_plan_20 rfl ?_
    refine GX11_92 eX11_plan_21 rfl ?_
    refine k_iconst (v := nI 0) eX11_plan_24 (by decide) ?_
    refine k_iload_n eX11_plan_25 rfl ?_
    refine k_iload_n eX11_plan_26 rfl ?_
    obtain ⟨du, hdu, hu⟩ := uX1_tell0 (S := S) (p := j) (by omega) hn hn40 (v)
    refine cV1 (M' := MX1_tell) eX11_plan_27 mX11_118 wX1_tell vX1_tell ⟨_, _, _, rfl, rfl, rfl⟩ rfl (hu) (by omega) (Nat.le_of_ble_eq_true rfl) ?_
    refine k_ireturn eX11_plan_30 rfl rfl ?_
    exact ⟨by rw [aPln, if_pos ⟨c_4, c_15⟩, ix_nI (by omega)], by rw [sPln, if_pos ⟨c_4, c_15⟩, ix_nI (by omega)]⟩
  refine k_iconst (v := (-1)) eX11_plan_18 (by decide) ?_
  refine k_ireturn eX11_plan_19 rfl rfl ?_
  exact ⟨by rw [aPln, if_neg (fun q => by first | exact c_4 q.1 | exact c_15 q.2)], by rw [sPln, if_neg (fun q => by first | exact c_4 q.1 | exact c_15 q.2)]⟩
set_option maxHeartbeats 400000 in
theorem pX11_mend {S : k_S} {wk : Nat} (hwk : S.1 803 = nI wk) (hwk1 : 1 ≤ wk) (hwk6 : wk ≤ 6) {n : Nat} (hn : S.1 1656 = nI n) (hn40 : n ≤ 40) (x y v : Int32) : Sp 3 0 0 MX11_mend [.ref 0, .int (x), .int (y), .int (v)] (hp S) (Rt (some (.int (aMnd (S.2.1 17) (S.2.1 18) (S.1 803) x y v))) (hp (sMnd S n x y v))) := by
  refine Sp_of (by decide +kernel) (Nat.le_of_ble_eq_true rfl) ?_
  show AW none MX11_mend 3 0 0 0 [.ref 0, .int (x), .int (y), .int (v)] [] (hp S) _
  refine k_iload_n eX11_mend_0 rfl ?_
  refine k_if_eq 34 eX11_mend_1 (by decide) (fun c_1 => ?_) (fun c_1 => ?_)
  · refine k_iconst (v := (-1)) eX11_mend_34 (by decide) ?_
    refine k_ireturn eX11_mend_35 rfl rfl ?_
    exact ⟨by rw [aMnd, if_neg (fun q => by first | exact q.1 c_1 | exact c_12 q.2.1 | exact c_21 q.2.2.1 | exact c_31 q.2.2.2)], by rw [sMnd, if_neg (fun q => by first | exact q.1 c_1 | exact c_12 q.2.1 | exact c_21 q.2.2.1 | exact c_31 q.2.2.2)]⟩
  refine k_aload_n eX11_mend_4 rfl ?_
  refine GX11_67 eX11_mend_5 rfl ?_
  refine k_iload_n eX11_mend_8 rfl ?_
  refine cV1 (M' := MX10_has) eX11_mend_9 mX11_110 wX10_has vX10_has ⟨_, _, _, rfl, rfl, rfl⟩ rfl (pX10_has (S := S) (x)) (by omega) (Nat.le_of_ble_eq_true rfl) ?_
  refine k_ifb_eq 34 eX11_mend_12 (by decide) (fun c_12 => ?_) (fun c_12 => ?_)
  · refine k_iconst (v := (-1)) eX11_mend_34 (by decide) ?_
    refine k_ireturn eX11_mend_35 rfl rfl ?_
    exact ⟨by rw [aMnd, if_neg (fun q => by first | exact q.1 c_1 | exact c_12 q.2.1 | exact c_21 q.2.2.1 | exact c_31 q.2.2.2)], by rw [sMnd, if_neg (fun q => by first | exact q.1 c_1 | exact c_12 q.2.1 | exact c_21 q.2.2.1 | exact c_31 q.2.2.2)]⟩
  refine k_iload_n eX11_mend_15 rfl ?_
  refine k_iconst (v := nI 0) eX11_mend_16 (by decide) ?_
  refine k_iconst (v := nI 1) eX11_mend_17 (by decide) ?_
  refine cS1 (M' := MX11_within) eX11_mend_18 mX11_114 wX11_within sX11_within rfl (pX11_within (y) (nI 0) (nI 1)) (by omega) (Nat.le_of_ble_eq_true rfl) ?_
  refine k_ifb_eq 34 eX11_mend_21 (by decide) (fun c_21 => ?_) (fun c_21 => ?_)
  · refine k_iconst (v := (-1)) eX11_mend_34 (by decide) ?_
    refine k_ireturn eX11_mend_35 rfl rfl ?_
    exact ⟨by rw [aMnd, if_neg (fun q => by first | exact q.1 c_1 | exact c_12 q.2.1 | exact c_21 q.2.2.1 | exact c_31 q.2.2.2)], by rw [sMnd, if_neg (fun q => by first | exact q.1 c_1 | exact c_12 q.2.1 | exact c_21 q.2.2.1 | exact c_31 q.2.2.2)]⟩
  refine k_iload_n eX11_mend_24 rfl ?_
  refine k_iconst (v := nI 0) eX11_mend_25 (by decide) ?_
  refine k_bipush (v := nI 99) eX11_mend_26 (by decide) ?_
  refine cS1 (M' := MX11_within) eX11_mend_28 mX11_114 wX11_within sX11_within rfl (pX11_within (v) (nI 0) (nI 99)) (by omega) (Nat.le_of_ble_eq_true rfl) ?_
  refine k_ifb_ne 36 eX11_mend_31 (by decide) (fun c_31 => ?_) (fun c_31 => ?_)
  · obtain ⟨w, hw, rfl⟩ := pW_ex c_12 hwk (by omega)
    refine k_aload_n eX11_mend_36 rfl ?_
    refine GX11_92 eX11_mend_37 rfl ?_
    refine k_iload_n eX11_mend_40 rfl ?_
    refine k_if_ne 48 eX11_mend_41 (by decide) (fun c_41 => ?_) (fun c_41 => ?_)
    · refine k_iconst (v := nI 2) eX11_mend_48 (by decide) ?_
      refine k_iload_n eX11_mend_49 rfl ?_
      refine k_iload_n eX11_mend_50 rfl ?_
      obtain ⟨du, hdu, hu⟩ := uX1_tell2 (S := S) (p := w) (by omega) hn hn40 (v)
      refine cV1 (M' := MX1_tell) eX11_mend_51 mX11_118 wX1_tell vX1_tell ⟨_, _, _, rfl, rfl, rfl⟩ rfl (hu) (by omega) (Nat.le_of_ble_eq_true rfl) ?_
      refine k_ireturn eX11_mend_54 rfl rfl ?_
      exact ⟨by rw [aMnd, if_pos ⟨c_1, c_12, c_21, c_31⟩, if_neg c_41, ix_nI (by omega)], by rw [sMnd, if_pos ⟨c_1, c_12, c_21, c_31⟩, if_neg c_41, ix_nI (by omega)]⟩
    refine k_iconst (v := nI 1) eX11_mend_44 (by decide) ?_
    refine k_goto 49 eX11_mend_45 (by decide) ?_
    refine k_iload_n eX11_mend_49 rfl ?_
    refine k_iload_n eX11_mend_50 rfl ?_
    obtain ⟨du, hdu, hu⟩ := uX1_tell1 (S := S) (p := w) (by omega) hn hn40 (v)
    refine cV1 (M' := MX1_tell) eX11_mend_51 mX11_118 wX1_tell vX1_tell ⟨_, _, _, rfl, rfl, rfl⟩ rfl (hu) (by omega) (Nat.le_of_ble_eq_true rfl) ?_
    refine k_ireturn eX11_mend_54 rfl rfl ?_
    exact ⟨by rw [aMnd, if_pos ⟨c_1, c_12, c_21, c_31⟩, if_pos c_41, ix_nI (by omega)], by rw [sMnd, if_pos ⟨c_1, c_12, c_21, c_31⟩, if_pos c_41, ix_nI (by omega)]⟩
  refine k_iconst (v := (-1)) eX11_mend_34 (by decide) ?_
  refine k_ireturn eX11_mend_35 rfl rfl ?_
  exact ⟨by rw [aMnd, if_neg (fun q => by first | exact q.1 c_1 | exact c_12 q.2.1 | exact c_21 q.2.2.1 | exact c_31 q.2.2.2)], by rw [sMnd, if_neg (fun q => by first | exact q.1 c_1 | exact c_12 q.2.1 | exact c_21 q.2.2.1 | exact c_31 q.2.2.2)]⟩
set_option maxHeartbeats 400000 in
theorem pX11_undo0 {S : k_S} {n p u : Nat} (hn : S.1 1656 = nI (n + 1)) (hn40 : n < 40) (hu : S.1 1657 = nI u) (hu2 : u ≤ 40) (hs : S.2.1 34 n = nI 0) (hq : S.2.1 35 n = nI p) (hpp : p < 120) : Sp 4 0 0 MX11_undo [.ref 0] (hp S) (Rt (some (.int (nI n))) (hp (sa (si (si S 1656 (nI n)) 1657 (nI (u + 1))) 25 (va_up (S.2.1 25) p (S.2.1 36 n))))) := by
  refine Sp_of (by decide +kernel) (Nat.le_of_ble_eq_true rfl) ?_
  show AW none MX11_undo 4 0 0 0 [.ref 0] [] (hp S) _
  refine k_aload_n eX11_undo_0 rfl ?_
  refine GX11_92 eX11_undo_1 rfl ?_
  refine cV1 (M' := MX1_stepBack) eX11_undo_4 mX11_275 wX1_stepBack vX1_stepBack ⟨_, _, _, rfl, rfl, rfl⟩ rfl (pX1_stepBack0 (S := S) hn hn40 hu hu2 hs hq hpp) (by decide) (Nat.le_of_ble_eq_true rfl) ?_
  refine k_ireturn eX11_undo_7 rfl rfl ?_
  exact ⟨rfl, rfl⟩
set_option maxHeartbeats 400000 in
theorem pX11_redo0 {S : k_S} {n p u : Nat} (hn : S.1 1656 = nI n) (hn40 : n < 40) (hu : S.1 1657 = nI (u + 1)) (hu2 : u ≤ 40) (hs : S.2.1 34 n = nI 0) (hq : S.2.1 35 n = nI p) (hpp : p < 120) : Sp 4 0 0 MX11_redo [.ref 0] (hp S) (Rt (some (.int (nI u))) (hp (si (si (sa S 25 (va_up (S.2.1 25) p (S.2.1 37 n))) 1656 (nI (n + 1))) 1657 (nI u)))) := by
  refine Sp_of (by decide +kernel) (Nat.le_of_ble_eq_true rfl) ?_
  show AW none MX11_redo 4 0 0 0 [.ref 0] [] (hp S) _
  refine k_aload_n eX11_redo_0 rfl ?_
  refine GX11_92 eX11_redo_1 rfl ?_
  refine cV1 (M' := MX1_stepAhead) eX11_redo_4 mX11_278 wX1_stepAhead vX1_stepAhead ⟨_, _, _, rfl, rfl, rfl⟩ rfl (pX1_stepAhead0 (S := S) hn hn40 hu hu2 hs hq hpp) (by decide) (Nat.le_of_ble_eq_true rfl) ?_
  refine k_ireturn eX11_redo_7 rfl rfl ?_
  exact ⟨rfl, rfl⟩
set_option maxHeartbeats 400000 in
theorem pX11_undo1 {S : k_S} {n p u : Nat} (hn : S.1 1656 = nI (n + 1)) (hn40 : n < 40) (hu : S.1 1657 = nI u) (hu2 : u ≤ 40) (hs : S.2.1 34 n = nI 1) (hq : S.2.1 35 n = nI p) (hpp : p < 6) : Sp 3 0 0 MX11_undo [.ref 0] (hp S) (Rt (some (.int (nI n))) (hp (sa (si (si S 1656 (nI n)) 1657 (nI (u + 1))) 17 (va_up (S.2.1 17) p (S.2.1 36 n))))) := by
  refine Sp_of (by decide +kernel) (Nat.le_of_ble_eq_true rfl) ?_
  show AW none MX11_undo 3 0 0 0 [.ref 0] [] (hp S) _
  refine k_aload_n eX11_undo_0 rfl ?_
  refine GX11_92 eX11_undo_1 rfl ?_
  refine cV1 (M' := MX1_stepBack) eX11_undo_4 mX11_275 wX1_stepBack vX1_stepBack ⟨_, _, _, rfl, rfl, rfl⟩ rfl (pX1_stepBack1 (S := S) hn hn40 hu hu2 hs hq hpp) (by decide) (Nat.le_of_ble_eq_true rfl) ?_
  refine k_ireturn eX11_undo_7 rfl rfl ?_
  exact ⟨rfl, rfl⟩
set_option maxHeartbeats 400000 in
theorem pX11_redo1 {S : k_S} {n p u : Nat} (hn : S.1 1656 = nI n) (hn40 : n < 40) (hu : S.1 1657 = nI (u + 1)) (hu2 : u ≤ 40) (hs : S.2.1 34 n = nI 1) (hq : S.2.1 35 n = nI p) (hpp : p < 6) : Sp 3 0 0 MX11_redo [.ref 0] (hp S) (Rt (some (.int (nI u))) (hp (si (si (sa S 17 (va_up (S.2.1 17) p (S.2.1 37 n))) 1656 (nI (n + 1))) 1657 (nI u)))) := by
  refine Sp_of (by decide +kernel) (Nat.le_of_ble_eq_true rfl) ?_
  show AW none MX11_redo 3 0 0 0 [.ref 0] [] (hp S) _
  refine k_aload_n eX11_redo_0 rfl ?_
  refine GX11_92 eX11_redo_1 rfl ?_
  refine cV1 (M' := MX1_stepAhead) eX11_redo_4 mX11_278 wX1_stepAhead vX1_stepAhead ⟨_, _, _, rfl, rfl, rfl⟩ rfl (pX1_stepAhead1 (S := S) hn hn40 hu hu2 hs hq hpp) (by decide) (Nat.le_of_ble_eq_true rfl) ?_
  refine k_ireturn eX11_redo_7 rfl rfl ?_
  exact ⟨rfl, rfl⟩
set_option maxHeartbeats 400000 in
theorem pX11_undo2 {S : k_S} {n p u : Nat} (hn : S.1 1656 = nI (n + 1)) (hn40 : n < 40) (hu : S.1 1657 = nI u) (hu2 : u ≤ 40) (hs : S.2.1 34 n = nI 2) (hq : S.2.1 35 n = nI p) (hpp : p < 6) : Sp 3 0 0 MX11_undo [.ref 0] (hp S) (Rt (some (.int (nI n))) (hp (sa (si (si S 1656 (nI n)) 1657 (nI (u + 1))) 18 (va_up (S.2.1 18) p (S.2.1 36 n))))) := by
  refine Sp_of (by decide +kernel) (Nat.le_of_ble_eq_true rfl) ?_
  show AW none MX11_undo 3 0 0 0 [.ref 0] [] (hp S) _
  refine k_aload_n eX11_undo_0 rfl ?_
  refine GX11_92 eX11_undo_1 rfl ?_
  refine cV1 (M' := MX1_stepBack) eX11_undo_4 mX11_275 wX1_stepBack vX1_stepBack ⟨_, _, _, rfl, rfl, rfl⟩ rfl (pX1_stepBack2 (S := S) hn hn40 hu hu2 hs hq hpp) (by decide) (Nat.le_of_ble_eq_true rfl) ?_
  refine k_ireturn eX11_undo_7 rfl rfl ?_
  exact ⟨rfl, rfl⟩
set_option maxHeartbeats 400000 in
theorem pX11_redo2 {S : k_S} {n p u : Nat} (hn : S.1 1656 = nI n) (hn40 : n < 40) (hu : S.1 1657 = nI (u + 1)) (hu2 : u ≤ 40) (hs : S.2.1 34 n = nI 2) (hq : S.2.1 35 n = nI p) (hpp : p < 6) : Sp 3 0 0 MX11_redo [.ref 0] (hp S) (Rt (some (.int (nI u))) (hp (si (si (sa S 18 (va_up (S.2.1 18) p (S.2.1 37 n))) 1656 (nI (n + 1))) 1657 (nI u)))) := by
  refine Sp_of (by decide +kernel) (Nat.le_of_ble_eq_true rfl) ?_
  show AW none MX11_redo 3 0 0 0 [.ref 0] [] (hp S) _
  refine k_aload_n eX11_redo_0 rfl ?_
  refine GX11_92 eX11_redo_1 rfl ?_
  refine cV1 (M' := MX1_stepAhead) eX11_redo_4 mX11_278 wX1_stepAhead vX1_stepAhead ⟨_, _, _, rfl, rfl, rfl⟩ rfl (pX1_stepAhead2 (S := S) hn hn40 hu hu2 hs hq hpp) (by decide) (Nat.le_of_ble_eq_true rfl) ?_
  refine k_ireturn eX11_redo_7 rfl rfl ?_
  exact ⟨rfl, rfl⟩
set_option maxHeartbeats 400000 in
theorem pX11_undoN {S : k_S} (hn : S.1 1656 = nI 0) : Sp 1 0 0 MX11_undo [.ref 0] (hp S) (Rt (some (.int (-5))) (hp S)) := by
  refine Sp_of (by decide +kernel) (Nat.le_of_ble_eq_true rfl) ?_
  show AW none MX11_undo 1 0 0 0 [.ref 0] [] (hp S) _
  refine k_aload_n eX11_undo_0 rfl ?_
  refine GX11_92 eX11_undo_1 rfl ?_
  refine cV1 (M' := MX1_stepBack) eX11_undo_4 mX11_275 wX1_stepBack vX1_stepBack ⟨_, _, _, rfl, rfl, rfl⟩ rfl (pX1_stepBackN (S := S) hn) (by decide) (Nat.le_of_ble_eq_true rfl) ?_
  refine k_ireturn eX11_undo_7 rfl rfl ?_
  exact ⟨rfl, rfl⟩
set_option maxHeartbeats 400000 in
theorem pX11_redoN {S : k_S} (hn : S.1 1657 = nI 0) : Sp 1 0 0 MX11_redo [.ref 0] (hp S) (Rt (some (.int (-5))) (hp S)) := by
  refine Sp_of (by decide +kernel) (Nat.le_of_ble_eq_true rfl) ?_
  show AW none MX11_redo 1 0 0 0 [.ref 0] [] (hp S) _
  refine k_aload_n eX11_redo_0 rfl ?_
  refine GX11_92 eX11_redo_1 rfl ?_
  refine cV1 (M' := MX1_stepAhead) eX11_redo_4 mX11_278 wX1_stepAhead vX1_stepAhead ⟨_, _, _, rfl, rfl, rfl⟩ rfl (pX1_stepAheadN (S := S) hn) (by decide) (Nat.le_of_ble_eq_true rfl) ?_
  refine k_ireturn eX11_redo_7 rfl rfl ?_
  exact ⟨rfl, rfl⟩
