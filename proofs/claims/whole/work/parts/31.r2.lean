theorem lev_le (s : Int32) : lev s ≤ 6 := by
  unfold lev
  repeat' split
  all_goals omega
theorem lev40 : lev (nI 40) = 0 := by decide
theorem lX6_emitWaiting {d : Nat} (hdd : 2 ≤ d) {Po : Option Value → k_H → Prop} {k dg : Nat} {wa as : Bool} (hk : 1 ≤ k) (hk6 : k ≤ 6) : ∀ (W c : List Int32) (S : k_S), RS S c W dg wa as → c.length + W.length ≤ 120 → (∀ S', RS S' (ew k c W).1 (ew k c W).2 dg wa as → FrR S S' → AW none MX6_emitWaiting d 0 0 62 [.ref 1, .int (nI k)] [] (hp S') Po) → AW none MX6_emitWaiting d 0 0 0 [.ref 1, .int (nI k)] [] (hp S) Po := by
  intro W
  induction W with
  | nil =>
    intro c S hR hl kx
    obtain ⟨h51, h2, h53, h3, h54, h55, h56, h57⟩ := id hR
    refine k_aload_n eX6_emitWaiting_0 rfl ?_
    refine GX6_22 eX6_emitWaiting_1 rfl ?_
    refine k_topi (nI 0) h53 ?_
    refine k_if_leN 62 eX6_emitWaiting_4 (by decide) (by omega) (fun c_4 => ?_) (fun c_4 => by exfalso; omega)
    exact kx S hR (FrR.rf S)
  | cons s W ih =>
    intro c S hR hl kx
    obtain ⟨h51, h2, h53, h3, h54, h55, h56, h57⟩ := id hR
    simp only [List.length_cons] at h53 hl
    have hlv : lev s ≤ 6 := lev_le s
    have hol := oc_le (s :: W)
    simp only [List.length_cons] at hol
    refine k_aload_n eX6_emitWaiting_0 rfl ?_
    refine GX6_22 eX6_emitWaiting_1 rfl ?_
    refine k_topi (nI (W.length + 1)) h53 ?_
    refine k_if_leN 62 eX6_emitWaiting_4 (by decide) (by omega) (fun c_4 => ?_) (fun c_4 => ?_)
    · exact kx S (by rw [ew, if_neg (by omega)]; exact hR) (FrR.rf S)
    refine k_aload_n eX6_emitWaiting_7 rfl ?_
    refine cV1 (M' := MX6_latestWaiting) eX6_emitWaiting_8 mX6_84 wX6_latestWaiting vX6_latestWaiting ⟨_, _, _, rfl, rfl, rfl⟩ rfl (pX6_latestWaiting (S := S) (W := s :: W) h53 h3 (by simp only [List.length_cons]; omega)) (by omega) (Nat.le_of_ble_eq_true rfl) ?_
    refine cS1 (M' := MX6_levelOf) eX6_emitWaiting_11 mX6_78 wX6_levelOf sX6_levelOf rfl (pX6_levelOf (s)) (by omega) (Nat.le_of_ble_eq_true rfl) ?_
    refine k_iload_n eX6_emitWaiting_14 rfl ?_
    refine k_icmp_ltN 62 eX6_emitWaiting_15 (by decide) (by omega) (by omega) (fun c_15 => ?_) (fun c_15 => ?_)
    · exact kx S (by rw [ew, if_neg (by omega)]; exact hR) (FrR.rf S)
    have hge : k ≤ lev s := c_15
    have hns : ¬ s = nI 40 := fun q => by rw [q, lev40] at hge; omega
    refine k_aload_n eX6_emitWaiting_18 rfl ?_
    refine cV1 (M' := MX6_latestWaiting) eX6_emitWaiting_19 mX6_84 wX6_latestWaiting vX6_latestWaiting ⟨_, _, _, rfl, rfl, rfl⟩ rfl (pX6_latestWaiting (S := S) (W := s :: W) h53 h3 (by simp only [List.length_cons]; omega)) (by omega) (Nat.le_of_ble_eq_true rfl) ?_
    refine cS1 (M' := MX6_levelOf) eX6_emitWaiting_22 mX6_78 wX6_levelOf sX6_levelOf rfl (pX6_levelOf (s)) (by omega) (Nat.le_of_ble_eq_true rfl) ?_
    refine k_bipush (v := nI 6) eX6_emitWaiting_25 (by decide) ?_
    refine k_icmp_neN 40 eX6_emitWaiting_27 (by decide) (by omega) (by omega) (fun c_27 => ?_) (fun c_27 => ?_)
    · have hoc : oc (s :: W) = oc W := by rw [oc, if_neg (fun q => q.elim c_27 hns)]; rfl
      refine k_aload_n eX6_emitWaiting_40 rfl ?_
      refine k_aload_n eX6_emitWaiting_41 rfl ?_
      refine cV1 (M' := MX6_latestWaiting) eX6_emitWaiting_42 mX6_84 wX6_latestWaiting vX6_latestWaiting ⟨_, _, _, rfl, rfl, rfl⟩ rfl (pX6_latestWaiting (S := S) (W := s :: W) h53 h3 (by simp only [List.length_cons]; omega)) (by omega) (Nat.le_of_ble_eq_true rfl) ?_
      refine k_ineg eX6_emitWaiting_45 ?_
      refine cV0 (M' := MX6_emit) eX6_emitWaiting_46 mX6_62 wX6_emit vX6_emit ⟨_, _, _, rfl, rfl, rfl⟩ rfl (pX6_emit (S := S) (n := c.length) h51 (by omega) ((-(s)))) (by omega) (Nat.le_of_ble_eq_true rfl) ?_
      refine k_aload_n eX6_emitWaiting_49 rfl ?_
      refine k_dup eX6_emitWaiting_50 rfl ?_
      refine GX6_22 eX6_emitWaiting_51 rfl ?_
      refine k_topi (nI (W.length + 1)) h53 ?_
      refine k_iconst (v := nI 1) eX6_emitWaiting_54 (by decide) ?_
      refine k_isubN eX6_emitWaiting_55 (by omega) ?_
      refine PX6_22 eX6_emitWaiting_56 rfl ?_
      refine k_goto 0 eX6_emitWaiting_59 (by decide) ?_
      exact ih ((-s) :: c) (si (si (sa S 2 (va_up ((S).2.1 2) c.length ((-(s))))) 51 (nI (c.length + 1))) 53 (nI ((W.length + 1) - 1))) ⟨rfl, stk_push h2, rfl, h3.2, (h54.trans (by rw [hoc])), h55, h56, h57⟩ (by simp only [List.length_cons]; omega) (fun S2 q f2 => kx S2 (by rw [ew, if_pos hge]; exact q) (((((FrR.rf S).sa (by decide) _).si (by decide) _).si (by decide) _).tr f2))
    have hoc : oc (s :: W) = oc W + 1 := by rw [oc, if_pos (Or.inl c_27)]
    refine k_aload_n eX6_emitWaiting_30 rfl ?_
    refine k_dup eX6_emitWaiting_31 rfl ?_
    refine GX6_25 eX6_emitWaiting_32 rfl ?_
    refine k_topi (nI (oc (s :: W))) h54 ?_
    refine k_iconst (v := nI 1) eX6_emitWaiting_35 (by decide) ?_
    refine k_isubN eX6_emitWaiting_36 (by rw [hoc]; omega) ?_
    refine PX6_25 eX6_emitWaiting_37 rfl ?_
    refine k_aload_n eX6_emitWaiting_40 rfl ?_
    refine k_aload_n eX6_emitWaiting_41 rfl ?_
    refine cV1 (M' := MX6_latestWaiting) eX6_emitWaiting_42 mX6_84 wX6_latestWaiting vX6_latestWaiting ⟨_, _, _, rfl, rfl, rfl⟩ rfl (pX6_latestWaiting (S := (si S 54 (nI ((oc (s :: W)) - 1)))) (W := s :: W) h53 h3 (by simp only [List.length_cons]; omega)) (by omega) (Nat.le_of_ble_eq_true rfl) ?_
    refine k_ineg eX6_emitWaiting_45 ?_
    refine cV0 (M' := MX6_emit) eX6_emitWaiting_46 mX6_62 wX6_emit vX6_emit ⟨_, _, _, rfl, rfl, rfl⟩ rfl (pX6_emit (S := (si S 54 (nI ((oc (s :: W)) - 1)))) (n := c.length) h51 (by omega) ((-(s)))) (by omega) (Nat.le_of_ble_eq_true rfl) ?_
    refine k_aload_n eX6_emitWaiting_49 rfl ?_
    refine k_dup eX6_emitWaiting_50 rfl ?_
    refine GX6_22 eX6_emitWaiting_51 rfl ?_
    refine k_topi (nI (W.length + 1)) h53 ?_
    refine k_iconst (v := nI 1) eX6_emitWaiting_54 (by decide) ?_
    refine k_isubN eX6_emitWaiting_55 (by omega) ?_
    refine PX6_22 eX6_emitWaiting_56 rfl ?_
    refine k_goto 0 eX6_emitWaiting_59 (by decide) ?_
    exact ih ((-s) :: c) (si (si (sa (si S 54 (nI ((oc (s :: W)) - 1))) 2 (va_up (((si S 54 (nI ((oc (s :: W)) - 1)))).2.1 2) c.length ((-(s))))) 51 (nI (c.length + 1))) 53 (nI ((W.length + 1) - 1))) ⟨rfl, stk_push h2, rfl, h3.2, (by show nI (oc (s :: W) - 1) = nI (oc W); rw [hoc]; rfl), h55, h56, h57⟩ (by simp only [List.length_cons]; omega) (fun S2 q f2 => kx S2 (by rw [ew, if_pos hge]; exact q) ((((((FrR.rf S).si (by decide) _).sa (by decide) _).si (by decide) _).si (by decide) _).tr f2))
theorem pX6_emitWaiting {S : k_S} {c W : List Int32} {dg : Nat} {wa as : Bool} (hR : RS S c W dg wa as) (hl : c.length + W.length ≤ 120) (k : Nat) (hk : 1 ≤ k) (hk6 : k ≤ 6) : Sp 2 0 0 MX6_emitWaiting [.ref 1, .int (nI k)] (hp S) (Rx none (fun S' => RS S' (ew k c W).1 (ew k c W).2 dg wa as ∧ FrR S S')) := by
  refine Sp_of (by decide +kernel) (Nat.le_of_ble_eq_true rfl) ?_
  show AW none MX6_emitWaiting 2 0 0 0 [.ref 1, .int (nI k)] [] (hp S) _
  refine lX6_emitWaiting (by decide) hk hk6 W c S hR hl (fun S' h1 h2 => ?_)
  refine k_return eX6_emitWaiting_62 rfl ?_
  exact ⟨rfl, S', rfl, h1, h2⟩
