theorem lev_le (s : Int32) : lev s ≤ 6 := by
  unfold lev
  repeat' split
  all_goals omega
theorem lev40 : lev (nI 40) = 0 := by decide
theorem lX6_emitWaiting {d : Nat} (hdd : 2 ≤ d) {Po : Option Value → k_H → Prop} {k dg : Nat} {wa as : Bool} (hk : 1 ≤ k) (hk6 : k ≤ 6) : ∀ (W c : List Int32) (S : k_S), RS S c W dg wa as → c.length + W.length ≤ 120 → (∀ S', RS S' (ew k c W).1 (ew k c W).2 dg wa as → FrR S S' → AW none MX6_emitWaiting d 0 0 62 [.ref 1, .int (nI k)] [] (hp S') Po) → AW none MX6_emitWaiting d 0 0 0 [.ref 1, .int (nI k)] [] (hp S) Po := by
  intro W
  induction W with
  | nil =>
    intro c S hR hl kx
    obtain ⟨h51, h2, h53, h3, h54, h55, h56, h57⟩ := id hR
    refine k_aload_n eX6_emitWaiting_0 rfl ?_
    refine GX6_22 eX6_emitWaiting_1 rfl ?_
    refine k_topi (nI 0) h53 ?_
    refine k_if_leN 62 eX6_emitWaiting_4 (by decide) (by omega) (fun c_4 => ?_) (fun c_4 => by exfalso; omega)
    exact kx S hR (FrR.rf S)
  | cons s W ih =>
    intro c S hR hl kx
    obtain ⟨h51, h2, h53, h3, h54, h55, h56, h57⟩ := id hR
    simp only [List.length_cons] at h53 hl
    have hlv : lev s ≤ 6 := lev_le s
    have hol := oc_le (s :: W)
    simp only [List.length_cons] at hol
    refine k_aload_n eX6_emitWaiting_0 rfl ?_
    refine GX6_22 eX6_emitWaiting_1 rfl ?_
    refine k_topi (nI (W.length + 1)) h53 ?_
    refine k_if_leN 62 eX6_emitWaiting_4 (by decide) (by omega) (fun c_4 => ?_) (fun c_4 => ?_)
    · exact kx S (by rw [ew, if_neg (by omega)]; exact hR) (FrR.rf S)
    refine k_aload_n eX6_emitWaiting_7 rfl ?_
    refine cV1 (M' := MX6_latestWaiting) eX6_emitWaiting_8 mX6_84 wX6_latestWaiting vX6_latestWaiting ⟨_, _, _, rfl, rfl, rfl⟩ rfl (pX6_latestWaiting (S := S) (W := s :: W) h53 h3 (by simp only [List.length_cons]; omega)) (by omega) (Nat.le_of_ble_eq_true rfl) ?_
    refine cS1 (M' := MX6_levelOf) eX6_emitWaiting_11 mX6_78 wX6_levelOf sX6_levelOf rfl (pX6_levelOf (s)) (by omega) (Nat.le_of_ble_eq_true rfl) ?_
    refine k_iload_n eX6_emitWaiting_14 rfl ?_
    refine k_icmp_ltN 62 eX6_emitWaiting_15 (by decide) (by omega) (by omega) (fun c_15 => ?_) (fun c_15 => ?_)
    · exact kx S (by rw [ew, if_neg (by omega)]; exact hR) (FrR.rf S)
    have hge : k ≤ lev s := c_15
    have hns : ¬ s = nI 40 := fun q => by rw [q, lev40] at hge; omega
    refine k_aload_n eX6_emitWaiting_18 rfl ?_
    refine cV1 (M' := MX6_latestWaiting) eX6_emitWaiting_19 mX6_84 wX6_latestWaiting vX6_latestWaiting ⟨_, _, _, rfl, rfl, rfl⟩ rfl (pX6_latestWaiting (S := S) (W := s :: W) h53 h3 (by simp only [List.length_cons]; omega)) (by omega) (Nat.le_of_ble_eq_true rfl) ?_
    refine cS1 (M' := MX6_levelOf) eX6_emitWaiting_22 mX6_78 wX6_levelOf sX6_levelOf rfl (pX6_levelOf (s)) (by omega) (Nat.le_of_ble_eq_true rfl) ?_
    refine k_bipush (v := nI 6) eX6_emitWaiting_25 (by decide) ?_
    refine k_icmp_neN 40 eX6_emitWaiting_27 (by decide) (by omega) (by omega) (fun c_27 => ?_) (fun c_27 => ?_)
    · have hoc : oc (s :: W) = oc W := by rw [oc, if_neg (fun q => q.elim c_27 hns)]; rfl
      refine k_aload_n eX6_emitWaiting_40 rfl ?_
      refine k_aload_n eX6_emitWaiting_41 rfl ?_
      refine cV1 (M' := MX6_latestWaiting) eX6_emitWaiting_42 mX6_84 wX6_latestWaiting vX6_latestWaiting ⟨_, _, _, rfl, rfl, rfl⟩ rfl (pX6_latestWaiting (S := S) (W := s :: W) h53 h3 (by simp only [List.length_cons]; omega)) (by omega) (Nat.le_of_ble_eq_true rfl) ?_
      refine k_ineg eX6_emitWaiting_45 ?_
      refine cV0 (M' := MX6_emit) eX6_emitWaiting_46 mX6_62 wX6_emit vX6_emit ⟨_, _, _, rfl, rfl, rfl⟩ rfl (pX6_emit (S := S) (n := c.length) h51 (by omega) ((-(s)))) (by omega) (Nat.le_of_ble_eq_true rfl) ?_
      refine k_aload_n eX6_emitWaiting_49 rfl ?_
      refine k_dup eX6_emitWaiting_50 rfl ?_
      refine GX6_22 eX6_emitWaiting_51 rfl ?_
      refine k_topi (nI (W.length + 1)) h53 ?_
      refine k_iconst (v := nI 1) eX6_emitWaiting_54 (by decide) ?_
      refine k_isubN eX6_emitWaiting_55 (by omega) ?_
      refine PX6_22 eX6_emitWaiting_56 rfl ?_
      refine k_goto 0 eX6_emitWaiting_59 (by decide) ?_
      exact ih ((-s) :: c) (si (si (sa S 2 (va_up ((S).2.1 2) c.length ((-(s))))) 51 (nI (c.length + 1))) 53 (nI ((W.length + 1) - 1))) ⟨rfl, stk_push h2, rfl, h3.2, (h54.trans (by rw [hoc])), h55, h56, h57⟩ (by simp only [List.length_cons]; omega) (fun S2 q f2 => kx S2 (by rw [ew, if_pos hge]; exact q) (((((FrR.rf S).sa (by decide) _).si (by decide) _).si (by decide) _).tr f2))
    have hoc : oc (s :: W) = oc W + 1 := by rw [oc, if_pos (Or.inl c_27)]
    refine k_aload_n eX6_emitWaiting_30 rfl ?_
    refine k_dup eX6_emitWaiting_31 rfl ?_
    refine GX6_25 eX6_emitWaiting_32 rfl ?_
    refine k_topi (nI (oc (s :: W))) h54 ?_
    refine k_iconst (v := nI 1) eX6_emitWaiting_35 (by decide) ?_
    refine k_isubN eX6_emitWaiting_36 (by rw [hoc]; omega) ?_
    refine PX6_25 eX6_emitWaiting_37 rfl ?_
    refine k_aload_n eX6_emitWaiting_40 rfl ?_
    refine k_aload_n eX6_emitWaiting_41 rfl ?_
    refine cV1 (M' := MX6_latestWaiting) eX6_emitWaiting_42 mX6_84 wX6_latestWaiting vX6_latestWaiting ⟨_, _, _, rfl, rfl, rfl⟩ rfl (pX6_latestWaiting (S := (si S 54 (nI ((oc (s :: W)) - 1)))) (W := s :: W) h53 h3 (by simp only [List.length_cons]; omega)) (by omega) (Nat.le_of_ble_eq_true rfl) ?_
    refine k_ineg eX6_emitWaiting_45 ?_
    refine cV0 (M' := MX6_emit) eX6_emitWaiting_46 mX6_62 wX6_emit vX6_emit ⟨_, _, _, rfl, rfl, rfl⟩ rfl (pX6_emit (S := (si S 54 (nI ((oc (s :: W)) - 1)))) (n := c.length) h51 (by omega) ((-(s)))) (by omega) (Nat.le_of_ble_eq_true rfl) ?_
    refine k_aload_n eX6_emitWaiting_49 rfl ?_
    refine k_dup eX6_emitWaiting_50 rfl ?_
    refine GX6_22 eX6_emitWaiting_51 rfl ?_
    refine k_topi (nI (W.length + 1)) h53 ?_
    refine k_iconst (v := nI 1) eX6_emitWaiting_54 (by decide) ?_
    refine k_isubN eX6_emitWaiting_55 (by omega) ?_
    refine PX6_22 eX6_emitWaiting_56 rfl ?_
    refine k_goto 0 eX6_emitWaiting_59 (by decide) ?_
    exact ih ((-s) :: c) (si (si (sa (si S 54 (nI ((oc (s :: W)) - 1))) 2 (va_up (((si S 54 (nI ((oc (s :: W)) - 1)))).2.1 2) c.length ((-(s))))) 51 (nI (c.length + 1))) 53 (nI ((W.length + 1) - 1))) ⟨rfl, stk_push h2, rfl, h3.2, (by show nI (oc (s :: W) - 1) = nI (oc W); rw [hoc]; rfl), h55, h56, h57⟩ (by simp only [List.length_cons]; omega) (fun S2 q f2 => kx S2 (by rw [ew, if_pos hge]; exact q) ((((((FrR.rf S).si (by decide) _).sa (by decide) _).si (by decide) _).si (by decide) _).tr f2))
theorem pX6_emitWaiting {S : k_S} {c W : List Int32} {dg : Nat} {wa as : Bool} (hR : RS S c W dg wa as) (hl : c.length + W.length ≤ 120) (k : Nat) (hk : 1 ≤ k) (hk6 : k ≤ 6) : Sp 2 0 0 MX6_emitWaiting [.ref 1, .int (nI k)] (hp S) (Rx none (fun S' => RS S' (ew k c W).1 (ew k c W).2 dg wa as ∧ FrR S S')) := by
  refine Sp_of (by decide +kernel) (Nat.le_of_ble_eq_true rfl) ?_
  show AW none MX6_emitWaiting 2 0 0 0 [.ref 1, .int (nI k)] [] (hp S) _
  refine lX6_emitWaiting (by decide) hk hk6 W c S hR hl (fun S' h1 h2 => ?_)
  refine k_return eX6_emitWaiting_62 rfl ?_
  exact ⟨rfl, S', rfl, h1, h2⟩
set_option maxHeartbeats 400000 in
theorem pX6_goesOnNumberN {S : k_S} {c W : List Int32} {dg : Nat} {wa as : Bool} (hR : RS S c W dg wa as) (hdg : dg < 1 ∨ 3 < dg) (hd5 : dg ≤ 4) (v : Int32) : Sp 0 0 0 MX6_goesOnNumber [.ref 1, .int (v)] (hp S) (Rt (some (.int (nI 0))) (hp S)) := by
  refine Sp_of (by decide +kernel) (Nat.le_of_ble_eq_true rfl) ?_
  show AW none MX6_goesOnNumber 0 0 0 0 [.ref 1, .int (v)] [] (hp S) _
  obtain ⟨h51, h2, h53, h3, h54, h55, h56, h57⟩ := id hR
  refine k_aload_n eX6_goesOnNumber_0 rfl ?_
  refine GX6_28 eX6_goesOnNumber_1 rfl ?_
  refine k_topi (nI dg) h55 ?_
  refine k_iconst (v := nI 1) eX6_goesOnNumber_4 (by decide) ?_
  refine k_icmp_ltN 16 eX6_goesOnNumber_5 (by decide) (by omega) (by omega) (fun c_5 => ?_) (fun c_5 => ?_)
  · refine k_iconst (v := nI 0) eX6_goesOnNumber_16 (by decide) ?_
    refine k_ireturn eX6_goesOnNumber_17 rfl rfl ?_
    exact ⟨rfl, rfl⟩
  refine k_aload_n eX6_goesOnNumber_8 rfl ?_
  refine GX6_28 eX6_goesOnNumber_9 rfl ?_
  refine k_topi (nI dg) h55 ?_
  refine k_iconst (v := nI 3) eX6_goesOnNumber_12 (by decide) ?_
  refine k_icmp_leN 18 eX6_goesOnNumber_13 (by decide) (by omega) (by omega) (fun c_13 => by exfalso; omega) (fun c_13 => ?_)
  refine k_iconst (v := nI 0) eX6_goesOnNumber_16 (by decide) ?_
  refine k_ireturn eX6_goesOnNumber_17 rfl rfl ?_
  exact ⟨rfl, rfl⟩
set_option maxHeartbeats 400000 in
theorem pX6_goesOnNumberY {S : k_S} {c W : List Int32} {dg : Nat} {wa as : Bool} {x : Int32} (hR : RS S (x :: c) W dg wa as) (hl : c.length < 200) (hdg : 1 ≤ dg ∧ dg ≤ 3) (v : Int32) : Sp 1 0 0 MX6_goesOnNumber [.ref 1, .int (v)] (hp S) (Rx (some (.int (nI 1))) (fun S' => RS S' ((x * nI 10 + v) :: c) W (dg + 1) wa as ∧ FrR S S')) := by
  refine Sp_of (by decide +kernel) (Nat.le_of_ble_eq_true rfl) ?_
  show AW none MX6_goesOnNumber 1 0 0 0 [.ref 1, .int (v)] [] (hp S) _
  obtain ⟨h51, h2, h53, h3, h54, h55, h56, h57⟩ := id hR
  simp only [List.length_cons] at h51
  refine k_aload_n eX6_goesOnNumber_0 rfl ?_
  refine GX6_28 eX6_goesOnNumber_1 rfl ?_
  refine k_topi (nI dg) h55 ?_
  refine k_iconst (v := nI 1) eX6_goesOnNumber_4 (by decide) ?_
  refine k_icmp_ltN 16 eX6_goesOnNumber_5 (by decide) (by omega) (by omega) (fun c_5 => by exfalso; omega) (fun c_5 => ?_)
  refine k_aload_n eX6_goesOnNumber_8 rfl ?_
  refine GX6_28 eX6_goesOnNumber_9 rfl ?_
  refine k_topi (nI dg) h55 ?_
  refine k_iconst (v := nI 3) eX6_goesOnNumber_12 (by decide) ?_
  refine k_icmp_leN 18 eX6_goesOnNumber_13 (by decide) (by omega) (by omega) (fun c_13 => ?_) (fun c_13 => by exfalso; omega)
  refine k_aload_n eX6_goesOnNumber_18 rfl ?_
  refine GX6_9 eX6_goesOnNumber_19 rfl ?_
  refine k_aload_n eX6_goesOnNumber_22 rfl ?_
  refine GX6_18 eX6_goesOnNumber_23 rfl ?_
  refine k_topi (nI (c.length + 1)) h51 ?_
  refine k_iconst (v := nI 1) eX6_goesOnNumber_26 (by decide) ?_
  refine k_isubN eX6_goesOnNumber_27 (by omega) ?_
  refine k_aload_n eX6_goesOnNumber_28 rfl ?_
  refine GX6_9 eX6_goesOnNumber_29 rfl ?_
  refine k_aload_n eX6_goesOnNumber_32 rfl ?_
  refine GX6_18 eX6_goesOnNumber_33 rfl ?_
  refine k_topi (nI (c.length + 1)) h51 ?_
  refine k_iconst (v := nI 1) eX6_goesOnNumber_36 (by decide) ?_
  refine k_isubN eX6_goesOnNumber_37 (by omega) ?_
  refine cN1 (M' := MX11_read) eX6_goesOnNumber_38 mX6_38 wX11_read sX11_read rfl (pX11_readN (j := ((c.length + 1) - 1)) (ar2 _) (by omega) (by decide)) (by decide) (Nat.le_of_ble_eq_true rfl) ?_
  refine k_topi (x) h2.1 ?_
  refine k_bipush (v := nI 10) eX6_goesOnNumber_41 (by decide) ?_
  refine k_imul eX6_goesOnNumber_43 ?_
  refine k_iload_n eX6_goesOnNumber_44 rfl ?_
  refine k_iadd eX6_goesOnNumber_45 ?_
  refine cN0 (M' := MX11_write) eX6_goesOnNumber_46 mX6_88 wX11_write sX11_write rfl (pX11_writeN (j := ((c.length + 1) - 1)) (v := ((x * nI 10) + v)) (ar2 _) (by omega) (by decide) (as2 _ _)) (by decide) (Nat.le_of_ble_eq_true rfl) ?_
  refine k_aload_n eX6_goesOnNumber_49 rfl ?_
  refine k_dup eX6_goesOnNumber_50 rfl ?_
  refine GX6_28 eX6_goesOnNumber_51 rfl ?_
  refine k_topi (nI dg) h55 ?_
  refine k_iconst (v := nI 1) eX6_goesOnNumber_54 (by decide) ?_
  refine k_iaddN eX6_goesOnNumber_55 ?_
  refine PX6_28 eX6_goesOnNumber_56 rfl ?_
  refine k_iconst (v := nI 1) eX6_goesOnNumber_59 (by decide) ?_
  refine k_ireturn eX6_goesOnNumber_60 rfl rfl ?_
  exact ⟨rfl, _, rfl, ⟨h51, ⟨va_up_at _ _ _, stk_up (Nat.le_refl _) h2.2⟩, h53, h3, h54, rfl, h56, h57⟩, (((FrR.rf S).sa (by decide) _).si (by decide) _)⟩
theorem hdI_40 {W : List Int32} (h : hdI W = nI 40) : ∃ W2, W = nI 40 :: W2 := by
  cases W with
  | nil => exact absurd h (by decide)
  | cons s r => exact ⟨r, by rw [show s = nI 40 from h]⟩
set_option maxHeartbeats 400000 in
theorem pX6_closes {S : k_S} {c W : List Int32} {dg : Nat} {wa as : Bool} (hR : RS S c W dg wa as) (hl : c.length + W.length ≤ 120) : Sp 3 0 0 MX6_closes [.ref 1] (hp S) (Rx (some (.int (b2i (hdI (ew 1 c W).2 = nI 40)))) (fun S' => FrR S S' ∧ ∀ W2, (ew 1 c W).2 = nI 40 :: W2 → RS S' (ew 1 c W).1 W2 dg wa as)) := by
  refine Sp_of (by decide +kernel) (Nat.le_of_ble_eq_true rfl) ?_
  show AW none MX6_closes 3 0 0 0 [.ref 1] [] (hp S) _
  refine k_aload_n eX6_closes_0 rfl ?_
  refine k_iconst (v := nI 1) eX6_closes_1 (by decide) ?_
  refine cVX0 (v := .null) (M' := MX6_emitWaiting) eX6_closes_2 mX6_81 wX6_emitWaiting vX6_emitWaiting ⟨_, _, _, rfl, rfl, rfl⟩ rfl (pX6_emitWaiting (S := S) hR hl 1 (by decide) (by decide)) (by decide) (Nat.le_of_ble_eq_true rfl) ?_
  intro S1 hQ
  obtain ⟨hR1, f1⟩ := hQ
  obtain ⟨h51, h2, h53, h3, h54, h55, h56, h57⟩ := id hR1
  have hl1 := ew_len 1 W c
  have hw1 : (ew 1 c W).2.length ≤ 120 := by omega
  have ho1 := oc_le (ew 1 c W).2
  refine k_aload_n eX6_closes_5 rfl ?_
  refine cV1 (M' := MX6_latestWaiting) eX6_closes_6 mX6_84 wX6_latestWaiting vX6_latestWaiting ⟨_, _, _, rfl, rfl, rfl⟩ rfl (pX6_latestWaiting (S := S1) (W := (ew 1 c W).2) h53 h3 hw1) (by decide) (Nat.le_of_ble_eq_true rfl) ?_
  refine k_bipush (v := nI 40) eX6_closes_9 (by decide) ?_
  refine k_icmp_eq 16 eX6_closes_11 (by decide) (fun c_11 => ?_) (fun c_11 => ?_)
  · obtain ⟨W2, hW2⟩ := hdI_40 c_11
    rw [hW2] at h53 h54 h3 ho1 hw1 hl1
    simp only [List.length_cons] at h53 ho1 hw1 hl1
    rw [show oc (nI 40 :: W2) = oc W2 + 1 from by rw [oc, if_pos (Or.inr rfl)]] at h54 ho1
    refine k_aload_n eX6_closes_16 rfl ?_
    refine k_dup eX6_closes_17 rfl ?_
    refine GX6_22 eX6_closes_18 rfl ?_
    refine k_topi (nI (W2.length + 1)) h53 ?_
    refine k_iconst (v := nI 1) eX6_closes_21 (by decide) ?_
    refine k_isubN eX6_closes_22 (by omega) ?_
    refine PX6_22 eX6_closes_23 rfl ?_
    refine k_aload_n eX6_closes_26 rfl ?_
    refine k_dup eX6_closes_27 rfl ?_
    refine GX6_25 eX6_closes_28 rfl ?_
    refine k_topi (nI (oc W2 + 1)) h54 ?_
    refine k_iconst (v := nI 1) eX6_closes_31 (by decide) ?_
    refine k_isubN eX6_closes_32 (by omega) ?_
    refine PX6_25 eX6_closes_33 rfl ?_
    refine k_iconst (v := nI 1) eX6_closes_36 (by decide) ?_
    refine k_ireturn eX6_closes_37 rfl rfl ?_
    exact ⟨rt_t c_11, _, rfl, ((f1.si (by decide) _).si (by decide) _), fun W3 q => by rw [hW2] at q; cases q; exact ⟨h51, h2, rfl, h3.2, rfl, h55, h56, h57⟩⟩
  refine k_iconst (v := nI 0) eX6_closes_14 (by decide) ?_
  refine k_ireturn eX6_closes_15 rfl rfl ?_
  exact ⟨rt_f c_11, S1, rfl, f1, fun W2 q => absurd (by rw [q]; rfl) c_11⟩
theorem len0 {W : List Int32} (h : W.length = 0) : W = [] := List.length_eq_zero_iff.mp h
theorem len0' {W : List Int32} (h : 0 < W.length) : ¬ W = [] := fun q => by rw [q] at h; exact absurd h (by decide)
set_option maxHeartbeats 400000 in
theorem pX6_endsLine {S : k_S} {c W : List Int32} {dg : Nat} {wa as : Bool} (hR : RS S c W dg wa as) (hl : c.length + W.length ≤ 120) : Sp 3 0 0 MX6_endsLine [.ref 1] (hp S) (Rx (some (.int (b2i ((ew 1 c W).2 = [])))) (fun S' => FrR S S' ∧ ((ew 1 c W).2 = [] → RS S' ((-59) :: (ew 1 c W).1) [] dg wa false))) := by
  refine Sp_of (by decide +kernel) (Nat.le_of_ble_eq_true rfl) ?_
  show AW none MX6_endsLine 3 0 0 0 [.ref 1] [] (hp S) _
  refine k_aload_n eX6_endsLine_0 rfl ?_
  refine k_iconst (v := nI 1) eX6_endsLine_1 (by decide) ?_
  refine cVX0 (v := .null) (M' := MX6_emitWaiting) eX6_endsLine_2 mX6_81 wX6_emitWaiting vX6_emitWaiting ⟨_, _, _, rfl, rfl, rfl⟩ rfl (pX6_emitWaiting (S := S) hR hl 1 (by decide) (by decide)) (by decide) (Nat.le_of_ble_eq_true rfl) ?_
  intro S1 hQ
  obtain ⟨hR1, f1⟩ := hQ
  obtain ⟨h51, h2, h53, h3, h54, h55, h56, h57⟩ := id hR1
  have hl1 := ew_len 1 W c
  have hw1 : (ew 1 c W).2.length ≤ 120 := by omega
  have ho1 := oc_le (ew 1 c W).2
  refine k_aload_n eX6_endsLine_5 rfl ?_
  refine GX6_22 eX6_endsLine_6 rfl ?_
  refine k_topi (nI ((ew 1 c W).2.length)) h53 ?_
  refine k_if_leN 14 eX6_endsLine_9 (by decide) (by omega) (fun c_9 => ?_) (fun c_9 => ?_)
  · refine k_aload_n eX6_endsLine_14 rfl ?_
    refine k_iconst (v := nI 0) eX6_endsLine_15 (by decide) ?_
    refine PX6_35 eX6_endsLine_16 rfl (Or.inl rfl) ?_
    refine k_aload_n eX6_endsLine_19 rfl ?_
    refine k_bipush (v := (-59)) eX6_endsLine_20 (by decide) ?_
    refine cV0 (M' := MX6_emit) eX6_endsLine_22 mX6_62 wX6_emit vX6_emit ⟨_, _, _, rfl, rfl, rfl⟩ rfl (pX6_emit (S := (si S1 57 (nI 0))) (n := (ew 1 c W).1.length) h51 (by omega) ((-59))) (by decide) (Nat.le_of_ble_eq_true rfl) ?_
    refine k_iconst (v := nI 1) eX6_endsLine_25 (by decide) ?_
    refine k_ireturn eX6_endsLine_26 rfl rfl ?_
    have hn := len0 c_9
    rw [hn] at h53 h3 h54
    exact ⟨rt_t hn, _, rfl, (((f1.si (by decide) _).sa (by decide) _).si (by decide) _), fun _ => ⟨rfl, stk_push h2, h53, h3, h54, h55, h56, rfl⟩⟩
  refine k_iconst (v := nI 0) eX6_endsLine_12 (by decide) ?_
  refine k_ireturn eX6_endsLine_13 rfl rfl ?_
  exact ⟨rt_f (len0' c_9), S1, rfl, f1, fun q => absurd q (len0' c_9)⟩
set_option maxHeartbeats 400000 in
theorem pX6_asks {S : k_S} {c W : List Int32} {dg : Nat} {wa as : Bool} (hR : RS S c W dg wa as) (hl : c.length + W.length ≤ 120) : Sp 3 0 0 MX6_asks [.ref 1] (hp S) (Rx (some (.int (b2i (as = false ∧ (ew 1 c W).2 = [])))) (fun S' => FrR S S' ∧ (as = false → (ew 1 c W).2 = [] → RS S' ((-63) :: (ew 1 c W).1) [] dg true true))) := by
  refine Sp_of (by decide +kernel) (Nat.le_of_ble_eq_true rfl) ?_
  show AW none MX6_asks 3 0 0 0 [.ref 1] [] (hp S) _
  refine k_aload_n eX6_asks_0 rfl ?_
  refine k_iconst (v := nI 1) eX6_asks_1 (by decide) ?_
  refine cVX0 (v := .null) (M' := MX6_emitWaiting) eX6_asks_2 mX6_81 wX6_emitWaiting vX6_emitWaiting ⟨_, _, _, rfl, rfl, rfl⟩ rfl (pX6_emitWaiting (S := S) hR hl 1 (by decide) (by decide)) (by decide) (Nat.le_of_ble_eq_true rfl) ?_
  intro S1 hQ
  obtain ⟨hR1, f1⟩ := hQ
  obtain ⟨h51, h2, h53, h3, h54, h55, h56, h57⟩ := id hR1
  have hl1 := ew_len 1 W c
  have hw1 : (ew 1 c W).2.length ≤ 120 := by omega
  have ho1 := oc_le (ew 1 c W).2
  refine k_aload_n eX6_asks_5 rfl ?_
  refine GX6_35 eX6_asks_6 rfl ?_
  refine k_topi (b2i (as = true)) h57 ?_
  refine k_ifb_ne 19 eX6_asks_9 (by decide) (fun c_9 => ?_) (fun c_9 => ?_)
  · refine k_iconst (v := nI 0) eX6_asks_19 (by decide) ?_
    refine k_ireturn eX6_asks_20 rfl rfl ?_
    first | exact ⟨rt_f (fun q => by rw [q.1] at c_9; cases c_9), S1, rfl, f1, fun q => by rw [q] at c_9; cases c_9⟩ | exact ⟨rt_f (fun q => len0' c_16 q.2), S1, rfl, f1, fun _ q => absurd q (len0' c_16)⟩
  refine k_aload_n eX6_asks_12 rfl ?_
  refine GX6_22 eX6_asks_13 rfl ?_
  refine k_topi (nI ((ew 1 c W).2.length)) h53 ?_
  refine k_if_leN 21 eX6_asks_16 (by decide) (by omega) (fun c_16 => ?_) (fun c_16 => ?_)
  · refine k_aload_n eX6_asks_21 rfl ?_
    refine k_iconst (v := nI 1) eX6_asks_22 (by decide) ?_
    refine PX6_35 eX6_asks_23 rfl (Or.inr rfl) ?_
    refine k_aload_n eX6_asks_26 rfl ?_
    refine k_iconst (v := nI 1) eX6_asks_27 (by decide) ?_
    refine PX6_31 eX6_asks_28 rfl (Or.inr rfl) ?_
    refine k_aload_n eX6_asks_31 rfl ?_
    refine k_bipush (v := (-63)) eX6_asks_32 (by decide) ?_
    refine cV0 (M' := MX6_emit) eX6_asks_34 mX6_62 wX6_emit vX6_emit ⟨_, _, _, rfl, rfl, rfl⟩ rfl (pX6_emit (S := (si (si S1 57 (nI 1)) 56 (nI 1))) (n := (ew 1 c W).1.length) h51 (by omega) ((-63))) (by decide) (Nat.le_of_ble_eq_true rfl) ?_
    refine k_iconst (v := nI 1) eX6_asks_37 (by decide) ?_
    refine k_ireturn eX6_asks_38 rfl rfl ?_
    have hn := len0 c_16
    rw [hn] at h53 h3 h54
    have ha : as = false := by cases as with
      | true => exact absurd rfl c_9
      | false => rfl
    exact ⟨rt_t ⟨ha, hn⟩, _, rfl, ((((f1.si (by decide) _).si (by decide) _).sa (by decide) _).si (by decide) _), fun _ _ => ⟨rfl, stk_push h2, h53, h3, h54, h55, rfl, rfl⟩⟩
  refine k_iconst (v := nI 0) eX6_asks_19 (by decide) ?_
  refine k_ireturn eX6_asks_20 rfl rfl ?_
  first | exact ⟨rt_f (fun q => by rw [q.1] at c_9; cases c_9), S1, rfl, f1, fun q => by rw [q] at c_9; cases c_9⟩ | exact ⟨rt_f (fun q => len0' c_16 q.2), S1, rfl, f1, fun _ q => absurd q (len0' c_16)⟩
