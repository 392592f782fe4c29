/-- is kind K under kind w, or w itself -/
def undB : Nat → Nat → Bool
  | 0, w => decide (w = 0 ∨ w = 8)
  | 1, w => decide (w = 1 ∨ w = 0 ∨ w = 8)
  | 2, w => decide (w = 2 ∨ w = 0 ∨ w = 8)
  | 3, w => decide (w = 3 ∨ w = 2 ∨ w = 0 ∨ w = 8)
  | 4, w => decide (w = 4 ∨ w = 0 ∨ w = 8)
  | 5, w => decide (w = 5 ∨ w = 1 ∨ w = 0 ∨ w = 8)
  | 6, w => decide (w = 6 ∨ w = 0 ∨ w = 8)
  | 7, w => decide (w = 7 ∨ w = 3 ∨ w = 2 ∨ w = 0 ∨ w = 8)
  | _, _ => false
def KdOk (S : k_S) (kn : Nat) : Prop := S.1 201 = nI kn ∧ kn ≤ 50 ∧ ∀ j, j < kn → ∃ K, K < 8 ∧ S.2.1 5 j = nI K
def ShOk (S : k_S) (kn : Nat) : Prop := ∀ j, j < 6 → S.2.1 8 j = -2 ∨ (S.2.1 8 j = -1 ∧ ∃ p, p < kn ∧ S.2.1 9 j = nI p) ∨ ∃ s l, s < 5 ∧ l ≤ 60 ∧ S.2.1 8 j = nI s ∧ S.2.1 9 j = nI l
abbrev pAct (kn p s : Int32) : Prop := pW kn p ∧ pIn s (nI 0) (nI 3)
def aAct (S : k_S) (p s x : Int32) : Int32 := if pAct (S.1 201) p s then acV (ix (S.2.1 5 (ix p))) (ix s) x p else nI 0
def sAct (S : k_S) (p s : Int32) : k_S := if pAct (S.1 201) p s then acS S (ix p) (ix (S.2.1 5 (ix p))) (ix s) else si S 203 (nI 0)
theorem uX0_isUnder {S : k_S} {K w : Nat} (hK : K < 8) (hw : w < 8) : ∃ du, du ≤ 1 ∧ Sp du 0 0 MX0_isUnder [.ref 4, .int (nI K), .int (nI w)] (hp S) (Rt (some (.int (b2i (undB K w = true)))) (hp S)) := by
  rcases (by omega : K = 0 ∨ K = 1 ∨ K = 2 ∨ K = 3 ∨ K = 4 ∨ K = 5 ∨ K = 6 ∨ K = 7) with rfl | rfl | rfl | rfl | rfl | rfl | rfl | rfl
  · exact ⟨1, by decide, by have q := pX0_isUnder0 (S := S) hw; rw [b2i_c (show (w = 0 ∨ w = 8) ↔ undB 0 w = true from decide_eq_true_iff.symm)] at q; exact q⟩
  · exact ⟨1, by decide, by have q := pX0_isUnder1 (S := S) hw; rw [b2i_c (show (w = 1 ∨ w = 0 ∨ w = 8) ↔ undB 1 w = true from decide_eq_true_iff.symm)] at q; exact q⟩
  · exact ⟨1, by decide, by have q := pX0_isUnder2 (S := S) hw; rw [b2i_c (show (w = 2 ∨ w = 0 ∨ w = 8) ↔ undB 2 w = true from decide_eq_true_iff.symm)] at q; exact q⟩
  · exact ⟨1, by decide, by have q := pX0_isUnder3 (S := S) hw; rw [b2i_c (show (w = 3 ∨ w = 2 ∨ w = 0 ∨ w = 8) ↔ undB 3 w = true from decide_eq_true_iff.symm)] at q; exact q⟩
  · exact ⟨1, by decide, by have q := pX0_isUnder4 (S := S) hw; rw [b2i_c (show (w = 4 ∨ w = 0 ∨ w = 8) ↔ undB 4 w = true from decide_eq_true_iff.symm)] at q; exact q⟩
  · exact ⟨1, by decide, by have q := pX0_isUnder5 (S := S) hw; rw [b2i_c (show (w = 5 ∨ w = 1 ∨ w = 0 ∨ w = 8) ↔ undB 5 w = true from decide_eq_true_iff.symm)] at q; exact q⟩
  · exact ⟨1, by decide, by have q := pX0_isUnder6 (S := S) hw; rw [b2i_c (show (w = 6 ∨ w = 0 ∨ w = 8) ↔ undB 6 w = true from decide_eq_true_iff.symm)] at q; exact q⟩
  · exact ⟨1, by decide, by have q := pX0_isUnder7 (S := S) hw; rw [b2i_c (show (w = 7 ∨ w = 3 ∨ w = 2 ∨ w = 0 ∨ w = 8) ↔ undB 7 w = true from decide_eq_true_iff.symm)] at q; exact q⟩
theorem uX0_begin {S : k_S} {kn : Nat} (hk : KdOk S kn) (p s x : Int32) : ∃ du, du ≤ 16 ∧ Sp du 0 0 MX0_begin [.ref 4, .int p, .int s, .int x] (hp S) (Rt (some (.int (aAct S p s x))) (hp (sAct S p s))) := by
  by_cases h : pAct (S.1 201) p s
  · rw [aAct, sAct, if_pos h, if_pos h]
    obtain ⟨p, hpp, rfl⟩ := pW_ex h.1 hk.1 (by have := hk.2.1; omega)
    obtain ⟨s, hs, rfl⟩ := k_rngle h.2.1 h.2.2 (by decide)
    obtain ⟨K, hK, e⟩ := hk.2.2 p hpp
    rw [ix_nI (by have := hk.2.1; omega), ix_nI (by omega), e, ix_nI (by omega)]
    exact ⟨_, by decide, pX0_begin hk.1 hpp hk.2.1 e hK (by omega) x⟩
  · rw [aAct, sAct, if_neg h, if_neg h]
    exact ⟨_, by decide, pX0_beginN p s x h⟩
set_option maxHeartbeats 400000 in
theorem pX11_act {S : k_S} {kn : Nat} (hk : KdOk S kn) (p s x : Int32) : Sp 17 0 0 MX11_act [.ref 0, .int (p), .int (s), .int (x)] (hp S) (Rt (some (.int (aAct S p s x))) (hp (sAct S p s))) := by
  refine Sp_of (by decide +kernel) (Nat.le_of_ble_eq_true rfl) ?_
  show AW none MX11_act 17 0 0 0 [.ref 0, .int (p), .int (s), .int (x)] [] (hp S) _
  refine k_aload_n eX11_act_0 rfl ?_
  refine GX11_19 eX11_act_1 rfl ?_
  refine k_iload_n eX11_act_4 rfl ?_
  refine k_iload_n eX11_act_5 rfl ?_
  refine k_iload_n eX11_act_6 rfl ?_
  obtain ⟨du, hdu, hu⟩ := uX0_begin hk p s x
  refine cV1 (M' := MX0_begin) eX11_act_7 mX11_283 wX0_begin vX0_begin ⟨_, _, _, rfl, rfl, rfl⟩ rfl (hu) (by omega) (Nat.le_of_ble_eq_true rfl) ?_
  refine k_ireturn eX11_act_10 rfl rfl ?_
  exact ⟨rfl, rfl⟩
set_option maxHeartbeats 400000 in
theorem pX11_trace {S : k_S} (x : Int32) : Sp 2 0 0 MX11_trace [.ref 0, .int (x)] (hp S) (Rt (some (.int (ranV S x))) (hp S)) := by
  refine Sp_of (by decide +kernel) (Nat.le_of_ble_eq_true rfl) ?_
  show AW none MX11_trace 2 0 0 0 [.ref 0, .int (x)] [] (hp S) _
  refine k_aload_n eX11_trace_0 rfl ?_
  refine GX11_19 eX11_trace_1 rfl ?_
  refine k_iload_n eX11_trace_4 rfl ?_
  refine cV1 (M' := MX0_ranAt) eX11_trace_5 mX11_286 wX0_ranAt vX0_ranAt ⟨_, _, _, rfl, rfl, rfl⟩ rfl (pX0_ranAt (S := S) x) (by decide) (Nat.le_of_ble_eq_true rfl) ?_
  refine k_ireturn eX11_trace_8 rfl rfl ?_
  exact ⟨rfl, rfl⟩
theorem pSh_ex {x : Int32} (h : pSh x) : ∃ j, j < 6 ∧ x = nI j := k_rng h.1 h.2 (by decide)
abbrev pKp (kn s b : Int32) : Prop := pSh s ∧ (b = -1 ∨ pW kn b)
def aKp (kn s b : Int32) : Int32 := if pKp kn s b then nI 1 else -1
def sKp (S : k_S) (s b : Int32) : k_S := if pKp (S.1 201) s b then hldS S (ix s) (if b = -1 then -2 else -1) b else S
abbrev pRw (s t n : Int32) : Prop := pSh s ∧ pIn t (nI 0) (nI 4) ∧ n ≤ nI 60
def aRw (s t n : Int32) : Int32 := if pRw s t n then (if n < 0 then -14 else nI 1) else -1
def sRw (S : k_S) (s t n : Int32) : k_S := if pRw s t n then (if n < 0 then S else hldS S (ix s) t n) else S
set_option maxHeartbeats 400000 in
theorem pX11_keep {S : k_S} (s b : Int32) : Sp 2 0 0 MX11_keep [.ref 0, .int (s), .int (b)] (hp S) (Rt (some (.int (aKp (S.1 201) s b))) (hp (sKp S s b))) := by
  refine Sp_of (by decide +kernel) (Nat.le_of_ble_eq_true rfl) ?_
  show AW none MX11_keep 2 0 0 0 [.ref 0, .int (s), .int (b)] [] (hp S) _
  refine k_aload_n eX11_keep_0 rfl ?_
  refine GX11_26 eX11_keep_1 rfl ?_
  refine k_iload_n eX11_keep_4 rfl ?_
  refine cV1 (M' := MX7_isShelf) eX11_keep_5 mX11_125 wX7_isShelf vX7_isShelf ⟨_, _, _, rfl, rfl, rfl⟩ rfl (pX7_isShelf (S := S) (s)) (by decide) (Nat.le_of_ble_eq_true rfl) ?_
  refine k_ifb_eq 27 eX11_keep_8 (by decide) (fun c_8 => ?_) (fun c_8 => ?_)
  · refine k_iconst (v := (-1)) eX11_keep_27 (by decide) ?_
    refine k_ireturn eX11_keep_28 rfl rfl ?_
    exact ⟨by rw [aKp, if_neg (fun q => by first | exact c_8 q.1 | exact q.2.elim c_13 c_24)], by rw [sKp, if_neg (fun q => by first | exact c_8 q.1 | exact q.2.elim c_13 c_24)]⟩
  refine k_iload_n eX11_keep_11 rfl ?_
  refine k_iconst (v := (-1)) eX11_keep_12 (by decide) ?_
  refine k_icmp_eq 29 eX11_keep_13 (by decide) (fun c_13 => ?_) (fun c_13 => ?_)
  · obtain ⟨j, hj, rfl⟩ := pSh_ex c_8
    refine k_aload_n eX11_keep_29 rfl ?_
    refine GX11_26 eX11_keep_30 rfl ?_
    refine k_iload_n eX11_keep_33 rfl ?_
    refine k_iload_n eX11_keep_34 rfl ?_
    refine k_iconst (v := (-1)) eX11_keep_35 (by decide) ?_
    refine k_icmp_ne 44 eX11_keep_36 (by decide) (fun c_36 => ?_) (fun c_36 => ?_)
    · refine k_iconst (v := (-1)) eX11_keep_44 (by decide) ?_
      refine k_iload_n eX11_keep_45 rfl ?_
      refine cV0 (M' := MX7_hold) eX11_keep_46 mX11_290 wX7_hold vX7_hold ⟨_, _, _, rfl, rfl, rfl⟩ rfl (pX7_hold (S := S) (j := j) (by omega) ((-1)) (b)) (by decide) (Nat.le_of_ble_eq_true rfl) ?_
      refine k_iconst (v := nI 1) eX11_keep_49 (by decide) ?_
      refine k_ireturn eX11_keep_50 rfl rfl ?_
      have hC : pKp (S.1 201) (nI j) b := ⟨c_8, by first | exact Or.inl c_13 | exact Or.inr c_24⟩
      exact ⟨by rw [aKp, if_pos hC], by rw [sKp, if_pos hC, if_neg (by first | exact c_36 | exact Decidable.not_not.mp c_36), ix_nI (by omega)]⟩
    refine k_bipush (v := (-2)) eX11_keep_39 (by decide) ?_
    refine k_goto 45 eX11_keep_41 (by decide) ?_
    refine k_iload_n eX11_keep_45 rfl ?_
    refine cV0 (M' := MX7_hold) eX11_keep_46 mX11_290 wX7_hold vX7_hold ⟨_, _, _, rfl, rfl, rfl⟩ rfl (pX7_hold (S := S) (j := j) (by omega) ((-2)) (b)) (by decide) (Nat.le_of_ble_eq_true rfl) ?_
    refine k_iconst (v := nI 1) eX11_keep_49 (by decide) ?_
    refine k_ireturn eX11_keep_50 rfl rfl ?_
    have hC : pKp (S.1 201) (nI j) b := ⟨c_8, by first | exact Or.inl c_13 | exact Or.inr c_24⟩
    exact ⟨by rw [aKp, if_pos hC], by rw [sKp, if_pos hC, if_pos (by first | exact c_36 | exact Decidable.not_not.mp c_36), ix_nI (by omega)]⟩
  refine k_aload_n eX11_keep_16 rfl ?_
  refine GX11_19 eX11_keep_17 rfl ?_
  refine k_iload_n eX11_keep_20 rfl ?_
  refine cV1 (M' := MX0_has) eX11_keep_21 mX11_289 wX0_has vX0_has ⟨_, _, _, rfl, rfl, rfl⟩ rfl (pX0_has (S := S) (b)) (by decide) (Nat.le_of_ble_eq_true rfl) ?_
  refine k_ifb_ne 29 eX11_keep_24 (by decide) (fun c_24 => ?_) (fun c_24 => ?_)
  · obtain ⟨j, hj, rfl⟩ := pSh_ex c_8
    refine k_aload_n eX11_keep_29 rfl ?_
    refine GX11_26 eX11_keep_30 rfl ?_
    refine k_iload_n eX11_keep_33 rfl ?_
    refine k_iload_n eX11_keep_34 rfl ?_
    refine k_iconst (v := (-1)) eX11_keep_35 (by decide) ?_
    refine k_icmp_ne 44 eX11_keep_36 (by decide) (fun c_36 => ?_) (fun c_36 => ?_)
    · refine k_iconst (v := (-1)) eX11_keep_44 (by decide) ?_
      refine k_iload_n eX11_keep_45 rfl ?_
      refine cV0 (M' := MX7_hold) eX11_keep_46 mX11_290 wX7_hold vX7_hold ⟨_, _, _, rfl, rfl, rfl⟩ rfl (pX7_hold (S := S) (j := j) (by omega) ((-1)) (b)) (by decide) (Nat.le_of_ble_eq_true rfl) ?_
      refine k_iconst (v := nI 1) eX11_keep_49 (by decide) ?_
      refine k_ireturn eX11_keep_50 rfl rfl ?_
      have hC : pKp (S.1 201) (nI j) b := ⟨c_8, by first | exact Or.inl c_13 | exact Or.inr c_24⟩
      exact ⟨by rw [aKp, if_pos hC], by rw [sKp, if_pos hC, if_neg (by first | exact c_36 | exact Decidable.not_not.mp c_36), ix_nI (by omega)]⟩
    refine k_bipush (v := (-2)) eX11_keep_39 (by decide) ?_
    refine k_goto 45 eX11_keep_41 (by decide) ?_
    refine k_iload_n eX11_keep_45 rfl ?_
    refine cV0 (M' := MX7_hold) eX11_keep_46 mX11_290 wX7_hold vX7_hold ⟨_, _, _, rfl, rfl, rfl⟩ rfl (pX7_hold (S := S) (j := j) (by omega) ((-2)) (b)) (by decide) (Nat.le_of_ble_eq_true rfl) ?_
    refine k_iconst (v := nI 1) eX11_keep_49 (by decide) ?_
    refine k_ireturn eX11_keep_50 rfl rfl ?_
    have hC : pKp (S.1 201) (nI j) b := ⟨c_8, by first | exact Or.inl c_13 | exact Or.inr c_24⟩
    exact ⟨by rw [aKp, if_pos hC], by rw [sKp, if_pos hC, if_pos (by first | exact c_36 | exact Decidable.not_not.mp c_36), ix_nI (by omega)]⟩
  refine k_iconst (v := (-1)) eX11_keep_27 (by decide) ?_
  refine k_ireturn eX11_keep_28 rfl rfl ?_
  exact ⟨by rw [aKp, if_neg (fun q => by first | exact c_8 q.1 | exact q.2.elim c_13 c_24)], by rw [sKp, if_neg (fun q => by first | exact c_8 q.1 | exact q.2.elim c_13 c_24)]⟩
set_option maxHeartbeats 400000 in
theorem pX11_row {S : k_S} (s t n : Int32) : Sp 2 0 0 MX11_row [.ref 0, .int (s), .int (t), .int (n)] (hp S) (Rt (some (.int (aRw s t n))) (hp (sRw S s t n))) := by
  refine Sp_of (by decide +kernel) (Nat.le_of_ble_eq_true rfl) ?_
  show AW none MX11_row 2 0 0 0 [.ref 0, .int (s), .int (t), .int (n)] [] (hp S) _
  refine k_aload_n eX11_row_0 rfl ?_
  refine GX11_26 eX11_row_1 rfl ?_
  refine k_iload_n eX11_row_4 rfl ?_
  refine cV1 (M' := MX7_isShelf) eX11_row_5 mX11_125 wX7_isShelf vX7_isShelf ⟨_, _, _, rfl, rfl, rfl⟩ rfl (pX7_isShelf (S := S) (s)) (by decide) (Nat.le_of_ble_eq_true rfl) ?_
  refine k_ifb_eq 26 eX11_row_8 (by decide) (fun c_8 => ?_) (fun c_8 => ?_)
  · refine k_iconst (v := (-1)) eX11_row_26 (by decide) ?_
    refine k_ireturn eX11_row_27 rfl rfl ?_
    exact ⟨by rw [aRw, if_neg (fun q => by first | exact c_8 q.1 | exact c_17 q.2.1 | exact c_23 q.2.2)], by rw [sRw, if_neg (fun q => by first | exact c_8 q.1 | exact c_17 q.2.1 | exact c_23 q.2.2)]⟩
  refine k_iload_n eX11_row_11 rfl ?_
  refine k_iconst (v := nI 0) eX11_row_12 (by decide) ?_
  refine k_iconst (v := nI 4) eX11_row_13 (by decide) ?_
  refine cS1 (M' := MX11_within) eX11_row_14 mX11_114 wX11_within sX11_within rfl (pX11_within (t) (nI 0) (nI 4)) (by decide) (Nat.le_of_ble_eq_true rfl) ?_
  refine k_ifb_eq 26 eX11_row_17 (by decide) (fun c_17 => ?_) (fun c_17 => ?_)
  · refine k_iconst (v := (-1)) eX11_row_26 (by decide) ?_
    refine k_ireturn eX11_row_27 rfl rfl ?_
    exact ⟨by rw [aRw, if_neg (fun q => by first | exact c_8 q.1 | exact c_17 q.2.1 | exact c_23 q.2.2)], by rw [sRw, if_neg (fun q => by first | exact c_8 q.1 | exact c_17 q.2.1 | exact c_23 q.2.2)]⟩
  refine k_iload_n eX11_row_20 rfl ?_
  refine k_bipush (v := nI 60) eX11_row_21 (by decide) ?_
  refine k_icmp_le 28 eX11_row_23 (by decide) (fun c_23 => ?_) (fun c_23 => ?_)
  · refine k_iload_n eX11_row_28 rfl ?_
    refine k_if_ge 35 eX11_row_29 (by decide) (fun c_29 => ?_) (fun c_29 => ?_)
    · obtain ⟨j, hj, rfl⟩ := pSh_ex c_8
      refine k_aload_n eX11_row_35 rfl ?_
      refine GX11_26 eX11_row_36 rfl ?_
      refine k_iload_n eX11_row_39 rfl ?_
      refine k_iload_n eX11_row_40 rfl ?_
      refine k_iload_n eX11_row_41 rfl ?_
      refine cV0 (M' := MX7_hold) eX11_row_42 mX11_290 wX7_hold vX7_hold ⟨_, _, _, rfl, rfl, rfl⟩ rfl (pX7_hold (S := S) (j := j) (by omega) (t) (n)) (by decide) (Nat.le_of_ble_eq_true rfl) ?_
      refine k_iconst (v := nI 1) eX11_row_45 (by decide) ?_
      refine k_ireturn eX11_row_46 rfl rfl ?_
      exact ⟨by rw [aRw, if_pos ⟨c_8, c_17, c_23⟩, if_neg (Int32.not_lt.mpr c_29)], by rw [sRw, if_pos ⟨c_8, c_17, c_23⟩, if_neg (Int32.not_lt.mpr c_29), ix_nI (by omega)]⟩
    refine k_bipush (v := (-14)) eX11_row_32 (by decide) ?_
    refine k_ireturn eX11_row_34 rfl rfl ?_
    exact ⟨by rw [aRw, if_pos ⟨c_8, c_17, c_23⟩, if_pos (Int32.not_le.mp c_29)], by rw [sRw, if_pos ⟨c_8, c_17, c_23⟩, if_pos (Int32.not_le.mp c_29)]⟩
  refine k_iconst (v := (-1)) eX11_row_26 (by decide) ?_
  refine k_ireturn eX11_row_27 rfl rfl ?_
  exact ⟨by rw [aRw, if_neg (fun q => by first | exact c_8 q.1 | exact c_17 q.2.1 | exact c_23 q.2.2)], by rw [sRw, if_neg (fun q => by first | exact c_8 q.1 | exact c_17 q.2.1 | exact c_23 q.2.2)]⟩
theorem uX7_refusalOf {S : k_S} (s i : Int32) : ∃ du, du ≤ 3 ∧ Sp du 0 0 MX7_refusalOf [.ref 7, .int s, .int i] (hp S) (Rt (some (.int (rfs S s i))) (hp S)) := by
  by_cases h : pSh s
  · obtain ⟨j, hj, rfl⟩ := pSh_ex h
    exact ⟨_, by decide, pX7_refusalOf hj i⟩
  · rw [rfs, if_pos h]; exact ⟨_, by decide, pX7_refusalOfN s i h⟩
theorem rfs_0 {S : k_S} {s i : Int32} (h : rfs S s i = 0) : pSh s ∧ 0 ≤ S.2.1 8 (ix s) ∧ 0 ≤ i ∧ i < S.2.1 9 (ix s) := by
  unfold rfs at h
  by_cases h1 : pSh s
  · rw [if_neg (not_not_intro h1)] at h
    by_cases h2 : S.2.1 8 (ix s) = -2
    · rw [if_pos h2] at h; exact absurd h (by decide)
    · rw [if_neg h2] at h
      by_cases h3 : 0 ≤ S.2.1 8 (ix s)
      · rw [if_neg (not_not_intro h3)] at h
        by_cases h4 : 0 ≤ i ∧ i < S.2.1 9 (ix s)
        · exact ⟨h1, h3, h4.1, h4.2⟩
        · rw [if_neg h4] at h; exact absurd h (by decide)
      · rw [if_pos h3] at h; exact absurd h (by decide)
  · rw [if_pos h1] at h; exact absurd h (by decide)
theorem rfs_ex {S : k_S} {kn : Nat} {s i : Int32} (hs : ShOk S kn) (h : rfs S s i = 0) : ∃ j k t, j < 6 ∧ k < 60 ∧ t < 5 ∧ s = nI j ∧ i = nI k ∧ S.2.1 8 j = nI t := by
  obtain ⟨h1, h2, h3, h4⟩ := rfs_0 h
  obtain ⟨j, hj, rfl⟩ := pSh_ex h1
  rw [ix_nI (by omega)] at h2 h4
  rcases hs j hj with q | q | ⟨t, l, q1, q2, q3, q4⟩
  · rw [q] at h2; exact absurd h2 (by decide)
  · rw [q.1] at h2; exact absurd h2 (by decide)
  · rw [q4] at h4
    obtain ⟨k, hk, rfl⟩ := k_rng (n := l) h3 h4 (by omega)
    exact ⟨j, k, t, hj, by omega, q1, rfl, rfl, q3⟩
def aPut (S : k_S) (s i : Int32) : Int32 := if rfs S s i = 0 then nI 1 else rfs S s i
def sPut (S : k_S) (s i : Int32) (v : Int64) : k_S := if rfs S s i = 0 then sj S 10 (va_up (S.2.2 10) (ix s * 60 + ix i) (lowb (ix (S.2.1 8 (ix s))) v)) else S
def aElt (S : k_S) (s i : Int32) : Int64 := if rfs S s i = 0 then S.2.2 10 (ix s * 60 + ix i) else -9223372036854775808
set_option maxHeartbeats 400000 in
theorem pX11_put {S : k_S} {kn : Nat} (hsh : ShOk S kn) (s i : Int32) (v : Int64) : Sp 4 0 0 MX11_put [.ref 0, .int (s), .int (i), .long (v)] (hp S) (Rt (some (.int (aPut S s i))) (hp (sPut S s i v))) := by
  refine Sp_of (by decide +kernel) (Nat.le_of_ble_eq_true rfl) ?_
  show AW none MX11_put 4 0 0 0 [.ref 0, .int (s), .int (i), .long (v), .null, .null] [] (hp S) _
  refine k_aload_n eX11_put_0 rfl ?_
  refine GX11_26 eX11_put_1 rfl ?_
  refine k_iload_n eX11_put_4 rfl ?_
  refine k_iload_n eX11_put_5 rfl ?_
  obtain ⟨du, hdu, hu⟩ := uX7_refusalOf (S := S) s i
  refine cV1 (M' := MX7_refusalOf) eX11_put_6 mX11_294 wX7_refusalOf vX7_refusalOf ⟨_, _, _, rfl, rfl, rfl⟩ rfl (hu) (by omega) (Nat.le_of_ble_eq_true rfl) ?_
  refine k_istore (L2 := [_, _, _, _, _, _]) eX11_put_9 (Nat.le_of_ble_eq_true rfl) rfl ?_
  refine k_iload eX11_put_11 rfl ?_
  refine k_if_eq 19 eX11_put_13 (by decide) (fun c_13 => ?_) (fun c_13 => ?_)
  · obtain ⟨j, k, t, hj, hk, hs, rfl, rfl, hso⟩ := rfs_ex hsh c_13
    refine k_aload_n eX11_put_19 rfl ?_
    refine GX11_26 eX11_put_20 rfl ?_
    refine k_iload_n eX11_put_23 rfl ?_
    refine k_iload_n eX11_put_24 rfl ?_
    refine k_lload_n eX11_put_25 rfl ?_
    refine cV0 (M' := MX7_setAt) eX11_put_26 mX11_297 wX7_setAt vX7_setAt ⟨_, _, _, rfl, rfl, rfl⟩ rfl (pX7_setAt (S := S) (j := j) (i := k) (s := t) (by omega) (by omega) (by omega) hso v) (by omega) (Nat.le_of_ble_eq_true rfl) ?_
    refine k_iconst (v := nI 1) eX11_put_29 (by decide) ?_
    refine k_ireturn eX11_put_30 rfl rfl ?_
    exact ⟨by rw [aPut, if_pos c_13], by rw [sPut, if_pos c_13, ix_nI (by omega), ix_nI (by omega), hso, ix_nI (by omega)]⟩
  refine k_iload eX11_put_16 rfl ?_
  refine k_ireturn eX11_put_18 rfl rfl ?_
  exact ⟨by rw [aPut, if_neg c_13], by rw [sPut, if_neg c_13]⟩
set_option maxHeartbeats 400000 in
theorem pX11_element {S : k_S} {kn : Nat} (hsh : ShOk S kn) (s i : Int32) : Sp 4 0 0 MX11_element [.ref 0, .int (s), .int (i)] (hp S) (Rt (some (.long (aElt S s i))) (hp S)) := by
  refine Sp_of (by decide +kernel) (Nat.le_of_ble_eq_true rfl) ?_
  show AW none MX11_element 4 0 0 0 [.ref 0, .int (s), .int (i)] [] (hp S) _
  refine k_aload_n eX11_element_0 rfl ?_
  refine GX11_26 eX11_element_1 rfl ?_
  refine k_iload_n eX11_element_4 rfl ?_
  refine k_iload_n eX11_element_5 rfl ?_
  obtain ⟨du, hdu, hu⟩ := uX7_refusalOf (S := S) s i
  refine cV1 (M' := MX7_refusalOf) eX11_element_6 mX11_294 wX7_refusalOf vX7_refusalOf ⟨_, _, _, rfl, rfl, rfl⟩ rfl (hu) (by omega) (Nat.le_of_ble_eq_true rfl) ?_
  refine k_if_eq 18 eX11_element_9 (by decide) (fun c_9 => ?_) (fun c_9 => ?_)
  · obtain ⟨j, k, t, hj, hk, hs, rfl, rfl, hso⟩ := rfs_ex hsh c_9
    refine k_aload_n eX11_element_18 rfl ?_
    refine GX11_26 eX11_element_19 rfl ?_
    refine k_iload_n eX11_element_22 rfl ?_
    refine k_iload_n eX11_element_23 rfl ?_
    refine cV1 (M' := MX7_elementAt) eX11_element_24 mX11_138 wX7_elementAt vX7_elementAt ⟨_, _, _, rfl, rfl, rfl⟩ rfl (pX7_elementAt (S := S) (j := j) (i := k) (by omega) (by omega)) (by omega) (Nat.le_of_ble_eq_true rfl) ?_
    refine k_lreturn eX11_element_27 rfl ?_
    exact ⟨by rw [aElt, if_pos c_9, ix_nI (by omega), ix_nI (by omega)], rfl⟩
  refine k_ldc2 eX11_element_12 kX11_301 rfl ?_
  refine k_goto 27 eX11_element_15 (by decide) ?_
  refine k_lreturn eX11_element_27 rfl ?_
  exact ⟨by rw [aElt, if_neg c_9], rfl⟩
