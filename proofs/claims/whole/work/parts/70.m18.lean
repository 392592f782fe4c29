theorem nI_inj' {a b : Nat} (h : nI a = nI b) (ha : a < 2 ^ 31) (hb : b < 2 ^ 31) : a = b := by
  have q := congrArg Int32.toInt h
  rw [nI_toInt ha, nI_toInt hb] at q; omega
theorem PsR.q {S0 U : k_S} {k : Nat} {t : Nat → Int32} {n p : Nat} {W m : List Int32} {as g : Bool} (h : PsR S0 k t n p W as m g U) (hn : n ≤ 120) (hm : m.length ≤ p) : ∃ q, U.1 2641 = nI q ∧ q ≤ 120 := by
  rcases h.2 with ⟨_, p', c', U', d', m', a1, a2, a3, a4, a5, a6, a7, a8⟩ | ⟨_, p', q, a1, a2, a3, a4, a5, a6⟩
  · exact ⟨m'.length, a6.2.2.2.1, by omega⟩
  · exact ⟨q, a5, by omega⟩
theorem xX12_readsTimes {d0 : Nat} {S0 : k_S} {t : Nat → Int32} {n p : Nat} {W : List Int32} {as : Bool} {m : List Int32} {S : k_S} (hF : FrP S0 S) (hFa : PsF t n p m S) : AW none MX12_readsTimes d0 0 0 5 [.ref 52, .int (nI 0), .null] [] (hp S) (RdQ S0 5 t n p W as m) := by
  refine k_iload_n eX12_readsTimes_5 rfl ?_
  refine k_if_eqN 87 eX12_readsTimes_6 (by decide) (by omega) (fun c_6 => ?_) (fun c_6 => by exfalso; omega)
  refine k_iload_n eX12_readsTimes_87 rfl ?_
  refine k_ireturn eX12_readsTimes_88 rfl rfl ?_
  exact ⟨false, S, rt_f (by decide), rfl, hF, Or.inr ⟨rfl, hFa⟩⟩
set_option maxHeartbeats 1000000 in
theorem lX12_readsTimes {d0 : Nat} {f D : Nat} (hS : RdC MX12_readsOne 6 D f) {S0 : k_S} {t : Nat → Int32} {n p : Nat} {W : List Int32} {as : Bool} {m : List Int32} (hn : n ≤ 120) (hml : m.length ≤ p) (hW : lev (hdI W) < 5) (hf : oc W + f = 6) (hD : D < d0) (hd2 : 1 ≤ d0) : ∀ (r : Nat) (p1 : Nat) (c1 U1 : List Int32) (d1 : Nat) (m1 : List Int32) (S : k_S), n - p1 < r → p < p1 → p1 ≤ n → crn t p1 = some (c1, U1 ++ W, d1, false, as) → (∀ s ∈ U1, 5 ≤ lev s) → rlL (emA U1 c1) m1 → RfS S t n p1 (oc W) m1 → m1.length + p ≤ m.length + p1 → nxO 6 t n p1 c1 (U1 ++ W) d1 → FrP S0 S → AW none MX12_readsTimes d0 0 0 5 [.ref 52, .int (nI 1), .null] [] (hp S) (RdQ S0 5 t n p W as m) := by
  intro r
  induction r with
  | zero =>
    intro p1 c1 U1 d1 m1 S hr
    exact absurd hr (Nat.not_lt_zero _)
  | succ r ih =>
    intro p1 c1 U1 d1 m1 S hr q1 q2 q3 hU q5 q6 q7 q8 hF
    refine k_iload_n eX12_readsTimes_5 rfl ?_
    refine k_if_eqN 87 eX12_readsTimes_6 (by decide) (by omega) (fun c_6 => by exfalso; omega) (fun c_6 => ?_)
    refine k_aload_n eX12_readsTimes_9 rfl ?_
    refine cV1 (M' := MX12_here) eX12_readsTimes_10 mX12_215 wX12_here vX12_here ⟨_, _, _, rfl, rfl, rfl⟩ rfl (pX12_here (S := S) q6 hn (by omega)) (by omega) (Nat.le_of_ble_eq_true rfl) ?_
    refine k_bipush (v := nI 42) eX12_readsTimes_13 (by decide) ?_
    refine k_icmp_eq 36 eX12_readsTimes_15 (by decide) (fun c_15 => ?_) (fun c_15 => ?_)
    · obtain ⟨hpn1, hlv⟩ : p1 < n ∧ lev (t p1) = 5 := by
        first
        | (obtain ⟨a1, a2⟩ := hr_in c_15 (by decide); exact ⟨a1, by rw [a2]; decide⟩)
        | (obtain ⟨a1, a2⟩ := hr_in c_24 (by decide); exact ⟨a1, by rw [a2]; decide⟩)
        | (obtain ⟨a1, a2⟩ := hr_in c_33 (by decide); exact ⟨a1, by rw [a2]; decide⟩)
      have hb : hrV t n p1 = t p1 := hr_p hpn1
      have hcn := crn_s q3 (op_st hU hW hlv (by decide) (by decide) (by decide))
      have hoc : oc (t p1 :: W) = oc W := oc_same W (fun z => by
        rcases z with z | z
        · omega
        · rw [z] at hlv; exact absurd hlv (by decide))
      have hP2 : RdP (si S 2638 (nI (p1 + 1))) t n (p1 + 1) (emA U1 c1) (t p1 :: W) 0 as m1 := ⟨hn, by omega, hcn, q5, by rw [hoc]; exact q6.pl (p1 + 1), by omega⟩
      refine k_aload_n eX12_readsTimes_36 rfl ?_
      refine cV1 (M' := MX12_here) eX12_readsTimes_37 mX12_215 wX12_here vX12_here ⟨_, _, _, rfl, rfl, rfl⟩ rfl (pX12_here (S := S) q6 hn (by omega)) (by omega) (Nat.le_of_ble_eq_true rfl) ?_
      refine k_istore_n (L2 := [_, _, _]) eX12_readsTimes_40 (Nat.le_of_ble_eq_true rfl) rfl ?_
      refine k_aload_n eX12_readsTimes_41 rfl ?_
      refine k_dup eX12_readsTimes_42 rfl ?_
      refine GX12_206 eX12_readsTimes_43 rfl ?_
      refine k_topi (nI p1) q6.1 ?_
      refine k_iconst (v := nI 1) eX12_readsTimes_46 (by decide) ?_
      refine k_iaddN eX12_readsTimes_47 ?_
      refine PX12_206 eX12_readsTimes_48 rfl ?_
      refine k_aload_n eX12_readsTimes_51 rfl ?_
      refine cVB (M' := MX12_readsOne) eX12_readsTimes_52 mX12_235 wX12_readsOne vX12_readsOne ⟨_, _, _, rfl, rfl, rfl⟩ rfl (hS (S := si S 2638 (nI (p1 + 1))) hP2 (fun _ => by show lev (t p1) < 6; omega) (by rw [hoc]; exact hf)) (by omega) (Nat.le_of_ble_eq_true rfl) ?_
      intro g U hQ
      refine k_istore_n (L2 := [_, _, _]) eX12_readsTimes_55 (Nat.le_of_ble_eq_true rfl) rfl ?_
      refine k_aload_n eX12_readsTimes_56 rfl ?_
      refine k_iload_n eX12_readsTimes_57 rfl ?_
      refine k_bipush (v := nI 42) eX12_readsTimes_58 (by decide) ?_
      refine k_icmp_ne 68 eX12_readsTimes_60 (by decide) (fun c_60 => ?_) (fun c_60 => ?_)
      · refine k_iload_n eX12_readsTimes_68 rfl ?_
        refine k_bipush (v := nI 47) eX12_readsTimes_69 (by decide) ?_
        refine k_icmp_ne 79 eX12_readsTimes_71 (by decide) (fun c_71 => ?_) (fun c_71 => ?_)
        · refine k_bipush (v := nI 22) eX12_readsTimes_79 (by decide) ?_
          have hbv : t p1 = nI 37 := by
            rw [← hb]
            first
            | exact c_33
            | exact absurd c_15 c_60
            | exact absurd c_24 c_71
          obtain ⟨q9, hq9, hq9b⟩ := hQ.q hn hP2.2.2.2.2.2
          have h39 : U.1 2640 = nI 3 := (hQ.1.1 2640 (by decide) (by decide) (by decide)).trans q6.2.2.1
          refine cV0 (M' := MX12_emits) eX12_readsTimes_81 mX12_219 wX12_emits vX12_emits ⟨_, _, _, rfl, rfl, rfl⟩ rfl (pX12_emits (S := U) (q := q9) h39 hq9 (by omega) (nI 22)) (by omega) (Nat.le_of_ble_eq_true rfl) ?_
          refine k_goto 5 eX12_readsTimes_84 (by decide) ?_
          rcases hQ with ⟨hFU, ⟨hg, p2, c2, U2, d2, m2, r1, r2, r3, r4, r5, r6, r7, r8⟩ | ⟨hg, p2, qf, r1, r2, r3, r4, r5, r6⟩⟩
          · subst hg
            obtain rfl : m2.length = q9 := nI_inj' (r6.2.2.2.1.symm.trans hq9) (by omega) (by omega)
            rw [hoc] at r6
            have hF9 : FrP S0 (emS U m2.length (nI 22)) := (((hF.si (Or.inl rfl) _).tr hFU)).em _ _
            have hU9 : ∀ z ∈ U2 ++ [t p1], 5 ≤ lev z := by
              intro z hz
              rcases List.mem_append.mp hz with hz | hz
              · have := r4 z hz; omega
              · rw [List.mem_singleton.mp hz]; omega
            have h3a : crn t p2 = some (c2, (U2 ++ [t p1]) ++ W, d2, false, as) := by rw [List.append_assoc]; exact r3
            have h5a : rlL (emA (U2 ++ [t p1]) c2) (nI 22 :: m2) := by rw [emA_app]; exact ⟨Or.inr (Or.inr (Or.inr (Or.inr (Or.inr (Or.inr ⟨22, by rw [Int32.neg_neg, hbv]; exact (by unfold bnR; decide), rfl⟩))))), r5⟩
            have h7a : (nI 22 :: m2).length + p ≤ m.length + p2 := by simp only [List.length_cons]; omega
            have h8a : nxO 6 t n p2 c2 ((U2 ++ [t p1]) ++ W) d2 := by rw [List.append_assoc]; exact r8
            refine k_forget 2 (L2 := [_, _, _]) rfl ?_
            refine k_loc (L2 := [_, .int (nI 1), _]) (by rw [b2i_t (show true = true from rfl)] <;> rfl) ?_
            exact ih p2 c2 (U2 ++ [t p1]) d2 _ _ (by omega) (by omega) r2 h3a hU9 h5a (r6.em _) h7a h8a hF9
          · subst hg
            obtain rfl : qf = q9 := nI_inj' (r5.symm.trans hq9) (by omega) (by omega)
            refine k_forget 2 (L2 := [_, _, _]) rfl ?_
            refine k_loc (L2 := [_, .int (nI 0), _]) (by rw [b2i_f (show ¬ false = true by decide)] <;> rfl) ?_
            exact xX12_readsTimes (((hF.si (Or.inl rfl) _).tr hFU).em _ _) ⟨p2, qf + 1, by omega, r2, r3, r4, rfl, by omega⟩
        refine k_bipush (v := nI 21) eX12_readsTimes_74 (by decide) ?_
        refine k_goto 81 eX12_readsTimes_76 (by decide) ?_
        have hbv : t p1 = nI 47 := by
          rw [← hb]
          first
          | exact c_71
        obtain ⟨q9, hq9, hq9b⟩ := hQ.q hn hP2.2.2.2.2.2
        have h39 : U.1 2640 = nI 3 := (hQ.1.1 2640 (by decide) (by decide) (by decide)).trans q6.2.2.1
        refine cV0 (M' := MX12_emits) eX12_readsTimes_81 mX12_219 wX12_emits vX12_emits ⟨_, _, _, rfl, rfl, rfl⟩ rfl (pX12_emits (S := U) (q := q9) h39 hq9 (by omega) (nI 21)) (by omega) (Nat.le_of_ble_eq_true rfl) ?_
        refine k_goto 5 eX12_readsTimes_84 (by decide) ?_
        rcases hQ with ⟨hFU, ⟨hg, p2, c2, U2, d2, m2, r1, r2, r3, r4, r5, r6, r7, r8⟩ | ⟨hg, p2, qf, r1, r2, r3, r4, r5, r6⟩⟩
        · subst hg
          obtain rfl : m2.length = q9 := nI_inj' (r6.2.2.2.1.symm.trans hq9) (by omega) (by omega)
          rw [hoc] at r6
          have hF9 : FrP S0 (emS U m2.length (nI 21)) := (((hF.si (Or.inl rfl) _).tr hFU)).em _ _
          have hU9 : ∀ z ∈ U2 ++ [t p1], 5 ≤ lev z := by
            intro z hz
            rcases List.mem_append.mp hz with hz | hz
            · have := r4 z hz; omega
            · rw [List.mem_singleton.mp hz]; omega
          have h3a : crn t p2 = some (c2, (U2 ++ [t p1]) ++ W, d2, false, as) := by rw [List.append_assoc]; exact r3
          have h5a : rlL (emA (U2 ++ [t p1]) c2) (nI 21 :: m2) := by rw [emA_app]; exact ⟨Or.inr (Or.inr (Or.inr (Or.inr (Or.inr (Or.inr ⟨21, by rw [Int32.neg_neg, hbv]; exact (by unfold bnR; decide), rfl⟩))))), r5⟩
          have h7a : (nI 21 :: m2).length + p ≤ m.length + p2 := by simp only [List.length_cons]; omega
          have h8a : nxO 6 t n p2 c2 ((U2 ++ [t p1]) ++ W) d2 := by rw [List.append_assoc]; exact r8
          refine k_forget 2 (L2 := [_, _, _]) rfl ?_
          refine k_loc (L2 := [_, .int (nI 1), _]) (by rw [b2i_t (show true = true from rfl)] <;> rfl) ?_
          exact ih p2 c2 (U2 ++ [t p1]) d2 _ _ (by omega) (by omega) r2 h3a hU9 h5a (r6.em _) h7a h8a hF9
        · subst hg
          obtain rfl : qf = q9 := nI_inj' (r5.symm.trans hq9) (by omega) (by omega)
          refine k_forget 2 (L2 := [_, _, _]) rfl ?_
          refine k_loc (L2 := [_, .int (nI 0), _]) (by rw [b2i_f (show ¬ false = true by decide)] <;> rfl) ?_
          exact xX12_readsTimes (((hF.si (Or.inl rfl) _).tr hFU).em _ _) ⟨p2, qf + 1, by omega, r2, r3, r4, rfl, by omega⟩
      refine k_bipush (v := nI 18) eX12_readsTimes_63 (by decide) ?_
      refine k_goto 81 eX12_readsTimes_65 (by decide) ?_
      have hbv : t p1 = nI 42 := by
        rw [← hb]
        first
        | exact c_60
      obtain ⟨q9, hq9, hq9b⟩ := hQ.q hn hP2.2.2.2.2.2
      have h39 : U.1 2640 = nI 3 := (hQ.1.1 2640 (by decide) (by decide) (by decide)).trans q6.2.2.1
      refine cV0 (M' := MX12_emits) eX12_readsTimes_81 mX12_219 wX12_emits vX12_emits ⟨_, _, _, rfl, rfl, rfl⟩ rfl (pX12_emits (S := U) (q := q9) h39 hq9 (by omega) (nI 18)) (by omega) (Nat.le_of_ble_eq_true rfl) ?_
      refine k_goto 5 eX12_readsTimes_84 (by decide) ?_
      rcases hQ with ⟨hFU, ⟨hg, p2, c2, U2, d2, m2, r1, r2, r3, r4, r5, r6, r7, r8⟩ | ⟨hg, p2, qf, r1, r2, r3, r4, r5, r6⟩⟩
      · subst hg
        obtain rfl : m2.length = q9 := nI_inj' (r6.2.2.2.1.symm.trans hq9) (by omega) (by omega)
        rw [hoc] at r6
        have hF9 : FrP S0 (emS U m2.length (nI 18)) := (((hF.si (Or.inl rfl) _).tr hFU)).em _ _
        have hU9 : ∀ z ∈ U2 ++ [t p1], 5 ≤ lev z := by
          intro z hz
          rcases List.mem_append.mp hz with hz | hz
          · have := r4 z hz; omega
          · rw [List.mem_singleton.mp hz]; omega
        have h3a : crn t p2 = some (c2, (U2 ++ [t p1]) ++ W, d2, false, as) := by rw [List.append_assoc]; exact r3
        have h5a : rlL (emA (U2 ++ [t p1]) c2) (nI 18 :: m2) := by rw [emA_app]; exact ⟨Or.inr (Or.inr (Or.inr (Or.inr (Or.inr (Or.inr ⟨18, by rw [Int32.neg_neg, hbv]; exact (by unfold bnR; decide), rfl⟩))))), r5⟩
        have h7a : (nI 18 :: m2).length + p ≤ m.length + p2 := by simp only [List.length_cons]; omega
        have h8a : nxO 6 t n p2 c2 ((U2 ++ [t p1]) ++ W) d2 := by rw [List.append_assoc]; exact r8
        refine k_forget 2 (L2 := [_, _, _]) rfl ?_
        refine k_loc (L2 := [_, .int (nI 1), _]) (by rw [b2i_t (show true = true from rfl)] <;> rfl) ?_
        exact ih p2 c2 (U2 ++ [t p1]) d2 _ _ (by omega) (by omega) r2 h3a hU9 h5a (r6.em _) h7a h8a hF9
      · subst hg
        obtain rfl : qf = q9 := nI_inj' (r5.symm.trans hq9) (by omega) (by omega)
        refine k_forget 2 (L2 := [_, _, _]) rfl ?_
        refine k_loc (L2 := [_, .int (nI 0), _]) (by rw [b2i_f (show ¬ false = true by decide)] <;> rfl) ?_
        exact xX12_readsTimes (((hF.si (Or.inl rfl) _).tr hFU).em _ _) ⟨p2, qf + 1, by omega, r2, r3, r4, rfl, by omega⟩
    refine k_aload_n eX12_readsTimes_18 rfl ?_
    refine cV1 (M' := MX12_here) eX12_readsTimes_19 mX12_215 wX12_here vX12_here ⟨_, _, _, rfl, rfl, rfl⟩ rfl (pX12_here (S := S) q6 hn (by omega)) (by omega) (Nat.le_of_ble_eq_true rfl) ?_
    refine k_bipush (v := nI 47) eX12_readsTimes_22 (by decide) ?_
    refine k_icmp_eq 36 eX12_readsTimes_24 (by decide) (fun c_24 => ?_) (fun c_24 => ?_)
    · obtain ⟨hpn1, hlv⟩ : p1 < n ∧ lev (t p1) = 5 := by
        first
        | (obtain ⟨a1, a2⟩ := hr_in c_15 (by decide); exact ⟨a1, by rw [a2]; decide⟩)
        | (obtain ⟨a1, a2⟩ := hr_in c_24 (by decide); exact ⟨a1, by rw [a2]; decide⟩)
        | (obtain ⟨a1, a2⟩ := hr_in c_33 (by decide); exact ⟨a1, by rw [a2]; decide⟩)
      have hb : hrV t n p1 = t p1 := hr_p hpn1
      have hcn := crn_s q3 (op_st hU hW hlv (by decide) (by decide) (by decide))
      have hoc : oc (t p1 :: W) = oc W := oc_same W (fun z => by
        rcases z with z | z
        · omega
        · rw [z] at hlv; exact absurd hlv (by decide))
      have hP2 : RdP (si S 2638 (nI (p1 + 1))) t n (p1 + 1) (emA U1 c1) (t p1 :: W) 0 as m1 := ⟨hn, by omega, hcn, q5, by rw [hoc]; exact q6.pl (p1 + 1), by omega⟩
      refine k_aload_n eX12_readsTimes_36 rfl ?_
      refine cV1 (M' := MX12_here) eX12_readsTimes_37 mX12_215 wX12_here vX12_here ⟨_, _, _, rfl, rfl, rfl⟩ rfl (pX12_here (S := S) q6 hn (by omega)) (by omega) (Nat.le_of_ble_eq_true rfl) ?_
      refine k_istore_n (L2 := [_, _, _]) eX12_readsTimes_40 (Nat.le_of_ble_eq_true rfl) rfl ?_
      refine k_aload_n eX12_readsTimes_41 rfl ?_
      refine k_dup eX12_readsTimes_42 rfl ?_
      refine GX12_206 eX12_readsTimes_43 rfl ?_
      refine k_topi (nI p1) q6.1 ?_
      refine k_iconst (v := nI 1) eX12_readsTimes_46 (by decide) ?_
      refine k_iaddN eX12_readsTimes_47 ?_
      refine PX12_206 eX12_readsTimes_48 rfl ?_
      refine k_aload_n eX12_readsTimes_51 rfl ?_
      refine cVB (M' := MX12_readsOne) eX12_readsTimes_52 mX12_235 wX12_readsOne vX12_readsOne ⟨_, _, _, rfl, rfl, rfl⟩ rfl (hS (S := si S 2638 (nI (p1 + 1))) hP2 (fun _ => by show lev (t p1) < 6; omega) (by rw [hoc]; exact hf)) (by omega) (Nat.le_of_ble_eq_true rfl) ?_
      intro g U hQ
      refine k_istore_n (L2 := [_, _, _]) eX12_readsTimes_55 (Nat.le_of_ble_eq_true rfl) rfl ?_
      refine k_aload_n eX12_readsTimes_56 rfl ?_
      refine k_iload_n eX12_readsTimes_57 rfl ?_
      refine k_bipush (v := nI 42) eX12_readsTimes_58 (by decide) ?_
      refine k_icmp_ne 68 eX12_readsTimes_60 (by decide) (fun c_60 => ?_) (fun c_60 => ?_)
      · refine k_iload_n eX12_readsTimes_68 rfl ?_
        refine k_bipush (v := nI 47) eX12_readsTimes_69 (by decide) ?_
        refine k_icmp_ne 79 eX12_readsTimes_71 (by decide) (fun c_71 => ?_) (fun c_71 => ?_)
        · refine k_bipush (v := nI 22) eX12_readsTimes_79 (by decide) ?_
          have hbv : t p1 = nI 37 := by
            rw [← hb]
            first
            | exact c_33
            | exact absurd c_15 c_60
            | exact absurd c_24 c_71
          obtain ⟨q9, hq9, hq9b⟩ := hQ.q hn hP2.2.2.2.2.2
          have h39 : U.1 2640 = nI 3 := (hQ.1.1 2640 (by decide) (by decide) (by decide)).trans q6.2.2.1
          refine cV0 (M' := MX12_emits) eX12_readsTimes_81 mX12_219 wX12_emits vX12_emits ⟨_, _, _, rfl, rfl, rfl⟩ rfl (pX12_emits (S := U) (q := q9) h39 hq9 (by omega) (nI 22)) (by omega) (Nat.le_of_ble_eq_true rfl) ?_
          refine k_goto 5 eX12_readsTimes_84 (by decide) ?_
          rcases hQ with ⟨hFU, ⟨hg, p2, c2, U2, d2, m2, r1, r2, r3, r4, r5, r6, r7, r8⟩ | ⟨hg, p2, qf, r1, r2, r3, r4, r5, r6⟩⟩
          · subst hg
            obtain rfl : m2.length = q9 := nI_inj' (r6.2.2.2.1.symm.trans hq9) (by omega) (by omega)
            rw [hoc] at r6
            have hF9 : FrP S0 (emS U m2.length (nI 22)) := (((hF.si (Or.inl rfl) _).tr hFU)).em _ _
            have hU9 : ∀ z ∈ U2 ++ [t p1], 5 ≤ lev z := by
              intro z hz
              rcases List.mem_append.mp hz with hz | hz
              · have := r4 z hz; omega
              · rw [List.mem_singleton.mp hz]; omega
            have h3a : crn t p2 = some (c2, (U2 ++ [t p1]) ++ W, d2, false, as) := by rw [List.append_assoc]; exact r3
            have h5a : rlL (emA (U2 ++ [t p1]) c2) (nI 22 :: m2) := by rw [emA_app]; exact ⟨Or.inr (Or.inr (Or.inr (Or.inr (Or.inr (Or.inr ⟨22, by rw [Int32.neg_neg, hbv]; exact (by unfold bnR; decide), rfl⟩))))), r5⟩
            have h7a : (nI 22 :: m2).length + p ≤ m.length + p2 := by simp only [List.length_cons]; omega
            have h8a : nxO 6 t n p2 c2 ((U2 ++ [t p1]) ++ W) d2 := by rw [List.append_assoc]; exact r8
            refine k_forget 2 (L2 := [_, _, _]) rfl ?_
            refine k_loc (L2 := [_, .int (nI 1), _]) (by rw [b2i_t (show true = true from rfl)] <;> rfl) ?_
            exact ih p2 c2 (U2 ++ [t p1]) d2 _ _ (by omega) (by omega) r2 h3a hU9 h5a (r6.em _) h7a h8a hF9
          · subst hg
            obtain rfl : qf = q9 := nI_inj' (r5.symm.trans hq9) (by omega) (by omega)
            refine k_forget 2 (L2 := [_, _, _]) rfl ?_
            refine k_loc (L2 := [_, .int (nI 0), _]) (by rw [b2i_f (show ¬ false = true by decide)] <;> rfl) ?_
            exact xX12_readsTimes (((hF.si (Or.inl rfl) _).tr hFU).em _ _) ⟨p2, qf + 1, by omega, r2, r3, r4, rfl, by omega⟩
        refine k_bipush (v := nI 21) eX12_readsTimes_74 (by decide) ?_
        refine k_goto 81 eX12_readsTimes_76 (by decide) ?_
        have hbv : t p1 = nI 47 := by
          rw [← hb]
          first
          | exact c_71
        obtain ⟨q9, hq9, hq9b⟩ := hQ.q hn hP2.2.2.2.2.2
        have h39 : U.1 2640 = nI 3 := (hQ.1.1 2640 (by decide) (by decide) (by decide)).trans q6.2.2.1
        refine cV0 (M' := MX12_emits) eX12_readsTimes_81 mX12_219 wX12_emits vX12_emits ⟨_, _, _, rfl, rfl, rfl⟩ rfl (pX12_emits (S := U) (q := q9) h39 hq9 (by omega) (nI 21)) (by omega) (Nat.le_of_ble_eq_true rfl) ?_
        refine k_goto 5 eX12_readsTimes_84 (by decide) ?_
        rcases hQ with ⟨hFU, ⟨hg, p2, c2, U2, d2, m2, r1, r2, r3, r4, r5, r6, r7, r8⟩ | ⟨hg, p2, qf, r1, r2, r3, r4, r5, r6⟩⟩
        · subst hg
          obtain rfl : m2.length = q9 := nI_inj' (r6.2.2.2.1.symm.trans hq9) (by omega) (by omega)
          rw [hoc] at r6
          have hF9 : FrP S0 (emS U m2.length (nI 21)) := (((hF.si (Or.inl rfl) _).tr hFU)).em _ _
          have hU9 : ∀ z ∈ U2 ++ [t p1], 5 ≤ lev z := by
            intro z hz
            rcases List.mem_append.mp hz with hz | hz
            · have := r4 z hz; omega
            · rw [List.mem_singleton.mp hz]; omega
          have h3a : crn t p2 = some (c2, (U2 ++ [t p1]) ++ W, d2, false, as) := by rw [List.append_assoc]; exact r3
          have h5a : rlL (emA (U2 ++ [t p1]) c2) (nI 21 :: m2) := by rw [emA_app]; exact ⟨Or.inr (Or.inr (Or.inr (Or.inr (Or.inr (Or.inr ⟨21, by rw [Int32.neg_neg, hbv]; exact (by unfold bnR; decide), rfl⟩))))), r5⟩
          have h7a : (nI 21 :: m2).length + p ≤ m.length + p2 := by simp only [List.length_cons]; omega
          have h8a : nxO 6 t n p2 c2 ((U2 ++ [t p1]) ++ W) d2 := by rw [List.append_assoc]; exact r8
          refine k_forget 2 (L2 := [_, _, _]) rfl ?_
          refine k_loc (L2 := [_, .int (nI 1), _]) (by rw [b2i_t (show true = true from rfl)] <;> rfl) ?_
          exact ih p2 c2 (U2 ++ [t p1]) d2 _ _ (by omega) (by omega) r2 h3a hU9 h5a (r6.em _) h7a h8a hF9
        · subst hg
          obtain rfl : qf = q9 := nI_inj' (r5.symm.trans hq9) (by omega) (by omega)
          refine k_forget 2 (L2 := [_, _, _]) rfl ?_
          refine k_loc (L2 := [_, .int (nI 0), _]) (by rw [b2i_f (show ¬ false = true by decide)] <;> rfl) ?_
          exact xX12_readsTimes (((hF.si (Or.inl rfl) _).tr hFU).em _ _) ⟨p2, qf + 1, by omega, r2, r3, r4, rfl, by omega⟩
      refine k_bipush (v := nI 18) eX12_readsTimes_63 (by decide) ?_
      refine k_goto 81 eX12_readsTimes_65 (by decide) ?_
      have hbv : t p1 = nI 42 := by
        rw [← hb]
        first
        | exact c_60
      obtain ⟨q9, hq9, hq9b⟩ := hQ.q hn hP2.2.2.2.2.2
      have h39 : U.1 2640 = nI 3 := (hQ.1.1 2640 (by decide) (by decide) (by decide)).trans q6.2.2.1
      refine cV0 (M' := MX12_emits) eX12_readsTimes_81 mX12_219 wX12_emits vX12_emits ⟨_, _, _, rfl, rfl, rfl⟩ rfl (pX12_emits (S := U) (q := q9) h39 hq9 (by omega) (nI 18)) (by omega) (Nat.le_of_ble_eq_true rfl) ?_
      refine k_goto 5 eX12_readsTimes_84 (by decide) ?_
      rcases hQ with ⟨hFU, ⟨hg, p2, c2, U2, d2, m2, r1, r2, r3, r4, r5, r6, r7, r8⟩ | ⟨hg, p2, qf, r1, r2, r3, r4, r5, r6⟩⟩
      · subst hg
        obtain rfl : m2.length = q9 := nI_inj' (r6.2.2.2.1.symm.trans hq9) (by omega) (by omega)
        rw [hoc] at r6
        have hF9 : FrP S0 (emS U m2.length (nI 18)) := (((hF.si (Or.inl rfl) _).tr hFU)).em _ _
        have hU9 : ∀ z ∈ U2 ++ [t p1], 5 ≤ lev z := by
          intro z hz
          rcases List.mem_append.mp hz with hz | hz
          · have := r4 z hz; omega
          · rw [List.mem_singleton.mp hz]; omega
        have h3a : crn t p2 = some (c2, (U2 ++ [t p1]) ++ W, d2, false, as) := by rw [List.append_assoc]; exact r3
        have h5a : rlL (emA (U2 ++ [t p1]) c2) (nI 18 :: m2) := by rw [emA_app]; exact ⟨Or.inr (Or.inr (Or.inr (Or.inr (Or.inr (Or.inr ⟨18, by rw [Int32.neg_neg, hbv]; exact (by unfold bnR; decide), rfl⟩))))), r5⟩
        have h7a : (nI 18 :: m2).length + p ≤ m.length + p2 := by simp only [List.length_cons]; omega
        have h8a : nxO 6 t n p2 c2 ((U2 ++ [t p1]) ++ W) d2 := by rw [List.append_assoc]; exact r8
        refine k_forget 2 (L2 := [_, _, _]) rfl ?_
        refine k_loc (L2 := [_, .int (nI 1), _]) (by rw [b2i_t (show true = true from rfl)] <;> rfl) ?_
        exact ih p2 c2 (U2 ++ [t p1]) d2 _ _ (by omega) (by omega) r2 h3a hU9 h5a (r6.em _) h7a h8a hF9
      · subst hg
        obtain rfl : qf = q9 := nI_inj' (r5.symm.trans hq9) (by omega) (by omega)
        refine k_forget 2 (L2 := [_, _, _]) rfl ?_
        refine k_loc (L2 := [_, .int (nI 0), _]) (by rw [b2i_f (show ¬ false = true by decide)] <;> rfl) ?_
        exact xX12_readsTimes (((hF.si (Or.inl rfl) _).tr hFU).em _ _) ⟨p2, qf + 1, by omega, r2, r3, r4, rfl, by omega⟩
    refine k_aload_n eX12_readsTimes_27 rfl ?_
    refine cV1 (M' := MX12_here) eX12_readsTimes_28 mX12_215 wX12_here vX12_here ⟨_, _, _, rfl, rfl, rfl⟩ rfl (pX12_here (S := S) q6 hn (by omega)) (by omega) (Nat.le_of_ble_eq_true rfl) ?_
    refine k_bipush (v := nI 37) eX12_readsTimes_31 (by decide) ?_
    refine k_icmp_ne 87 eX12_readsTimes_33 (by decide) (fun c_33 => ?_) (fun c_33 => ?_)
    · refine k_iload_n eX12_readsTimes_87 rfl ?_
      refine k_ireturn eX12_readsTimes_88 rfl rfl ?_
      refine ⟨true, S, rt_t rfl, rfl, hF, Or.inl ⟨rfl, p1, c1, U1, d1, m1, q1, q2, q3, (fun z hz => by have := hU z hz; omega), q5, q6, q7, nxO_dn q8 (fun hp hl => by rcases lev_5 hl with z | z | z <;> first | exact absurd z (fun z => c_15 (by rw [hr_p hp]; exact z)) | exact absurd z (fun z => c_24 (by rw [hr_p hp]; exact z)) | exact absurd z (fun z => c_33 (by rw [hr_p hp]; exact z)))⟩⟩
    obtain ⟨hpn1, hlv⟩ : p1 < n ∧ lev (t p1) = 5 := by
      first
      | (obtain ⟨a1, a2⟩ := hr_in c_15 (by decide); exact ⟨a1, by rw [a2]; decide⟩)
      | (obtain ⟨a1, a2⟩ := hr_in c_24 (by decide); exact ⟨a1, by rw [a2]; decide⟩)
      | (obtain ⟨a1, a2⟩ := hr_in c_33 (by decide); exact ⟨a1, by rw [a2]; decide⟩)
    have hb : hrV t n p1 = t p1 := hr_p hpn1
    have hcn := crn_s q3 (op_st hU hW hlv (by decide) (by decide) (by decide))
    have hoc : oc (t p1 :: W) = oc W := oc_same W (fun z => by
      rcases z with z | z
      · omega
      · rw [z] at hlv; exact absurd hlv (by decide))
    have hP2 : RdP (si S 2638 (nI (p1 + 1))) t n (p1 + 1) (emA U1 c1) (t p1 :: W) 0 as m1 := ⟨hn, by omega, hcn, q5, by rw [hoc]; exact q6.pl (p1 + 1), by omega⟩
    refine k_aload_n eX12_readsTimes_36 rfl ?_
    refine cV1 (M' := MX12_here) eX12_readsTimes_37 mX12_215 wX12_here vX12_here ⟨_, _, _, rfl, rfl, rfl⟩ rfl (pX12_here (S := S) q6 hn (by omega)) (by omega) (Nat.le_of_ble_eq_true rfl) ?_
    refine k_istore_n (L2 := [_, _, _]) eX12_readsTimes_40 (Nat.le_of_ble_eq_true rfl) rfl ?_
    refine k_aload_n eX12_readsTimes_41 rfl ?_
    refine k_dup eX12_readsTimes_42 rfl ?_
    refine GX12_206 eX12_readsTimes_43 rfl ?_
    refine k_topi (nI p1) q6.1 ?_
    refine k_iconst (v := nI 1) eX12_readsTimes_46 (by decide) ?_
    refine k_iaddN eX12_readsTimes_47 ?_
    refine PX12_206 eX12_readsTimes_48 rfl ?_
    refine k_aload_n eX12_readsTimes_51 rfl ?_
    refine cVB (M' := MX12_readsOne) eX12_readsTimes_52 mX12_235 wX12_readsOne vX12_readsOne ⟨_, _, _, rfl, rfl, rfl⟩ rfl (hS (S := si S 2638 (nI (p1 + 1))) hP2 (fun _ => by show lev (t p1) < 6; omega) (by rw [hoc]; exact hf)) (by omega) (Nat.le_of_ble_eq_true rfl) ?_
    intro g U hQ
    refine k_istore_n (L2 := [_, _, _]) eX12_readsTimes_55 (Nat.le_of_ble_eq_true rfl) rfl ?_
    refine k_aload_n eX12_readsTimes_56 rfl ?_
    refine k_iload_n eX12_readsTimes_57 rfl ?_
    refine k_bipush (v := nI 42) eX12_readsTimes_58 (by decide) ?_
    refine k_icmp_ne 68 eX12_readsTimes_60 (by decide) (fun c_60 => ?_) (fun c_60 => ?_)
    · refine k_iload_n eX12_readsTimes_68 rfl ?_
      refine k_bipush (v := nI 47) eX12_readsTimes_69 (by decide) ?_
      refine k_icmp_ne 79 eX12_readsTimes_71 (by decide) (fun c_71 => ?_) (fun c_71 => ?_)
      · refine k_bipush (v := nI 22) eX12_readsTimes_79 (by decide) ?_
        have hbv : t p1 = nI 37 := by
          rw [← hb]
          first
          | exact c_33
          | exact absurd c_15 c_60
          | exact absurd c_24 c_71
        obtain ⟨q9, hq9, hq9b⟩ := hQ.q hn hP2.2.2.2.2.2
        have h39 : U.1 2640 = nI 3 := (hQ.1.1 2640 (by decide) (by decide) (by decide)).trans q6.2.2.1
        refine cV0 (M' := MX12_emits) eX12_readsTimes_81 mX12_219 wX12_emits vX12_emits ⟨_, _, _, rfl, rfl, rfl⟩ rfl (pX12_emits (S := U) (q := q9) h39 hq9 (by omega) (nI 22)) (by omega) (Nat.le_of_ble_eq_true rfl) ?_
        refine k_goto 5 eX12_readsTimes_84 (by decide) ?_
        rcases hQ with ⟨hFU, ⟨hg, p2, c2, U2, d2, m2, r1, r2, r3, r4, r5, r6, r7, r8⟩ | ⟨hg, p2, qf, r1, r2, r3, r4, r5, r6⟩⟩
        · subst hg
          obtain rfl : m2.length = q9 := nI_inj' (r6.2.2.2.1.symm.trans hq9) (by omega) (by omega)
          rw [hoc] at r6
          have hF9 : FrP S0 (emS U m2.length (nI 22)) := (((hF.si (Or.inl rfl) _).tr hFU)).em _ _
          have hU9 : ∀ z ∈ U2 ++ [t p1], 5 ≤ lev z := by
            intro z hz
            rcases List.mem_append.mp hz with hz | hz
            · have := r4 z hz; omega
            · rw [List.mem_singleton.mp hz]; omega
          have h3a : crn t p2 = some (c2, (U2 ++ [t p1]) ++ W, d2, false, as) := by rw [List.append_assoc]; exact r3
          have h5a : rlL (emA (U2 ++ [t p1]) c2) (nI 22 :: m2) := by rw [emA_app]; exact ⟨Or.inr (Or.inr (Or.inr (Or.inr (Or.inr (Or.inr ⟨22, by rw [Int32.neg_neg, hbv]; exact (by unfold bnR; decide), rfl⟩))))), r5⟩
          have h7a : (nI 22 :: m2).length + p ≤ m.length + p2 := by simp only [List.length_cons]; omega
          have h8a : nxO 6 t n p2 c2 ((U2 ++ [t p1]) ++ W) d2 := by rw [List.append_assoc]; exact r8
          refine k_forget 2 (L2 := [_, _, _]) rfl ?_
          refine k_loc (L2 := [_, .int (nI 1), _]) (by rw [b2i_t (show true = true from rfl)] <;> rfl) ?_
          exact ih p2 c2 (U2 ++ [t p1]) d2 _ _ (by omega) (by omega) r2 h3a hU9 h5a (r6.em _) h7a h8a hF9
        · subst hg
          obtain rfl : qf = q9 := nI_inj' (r5.symm.trans hq9) (by omega) (by omega)
          refine k_forget 2 (L2 := [_, _, _]) rfl ?_
          refine k_loc (L2 := [_, .int (nI 0), _]) (by rw [b2i_f (show ¬ false = true by decide)] <;> rfl) ?_
          exact xX12_readsTimes (((hF.si (Or.inl rfl) _).tr hFU).em _ _) ⟨p2, qf + 1, by omega, r2, r3, r4, rfl, by omega⟩
      refine k_bipush (v := nI 21) eX12_readsTimes_74 (by decide) ?_
      refine k_goto 81 eX12_readsTimes_76 (by decide) ?_
      have hbv : t p1 = nI 47 := by
        rw [← hb]
        first
        | exact c_71
      obtain ⟨q9, hq9, hq9b⟩ := hQ.q hn hP2.2.2.2.2.2
      have h39 : U.1 2640 = nI 3 := (hQ.1.1 2640 (by decide) (by decide) (by decide)).trans q6.2.2.1
      refine cV0 (M' := MX12_emits) eX12_readsTimes_81 mX12_219 wX12_emits vX12_emits ⟨_, _, _, rfl, rfl, rfl⟩ rfl (pX12_emits (S := U) (q := q9) h39 hq9 (by omega) (nI 21)) (by omega) (Nat.le_of_ble_eq_true rfl) ?_
      refine k_goto 5 eX12_readsTimes_84 (by decide) ?_
      rcases hQ with ⟨hFU, ⟨hg, p2, c2, U2, d2, m2, r1, r2, r3, r4, r5, r6, r7, r8⟩ | ⟨hg, p2, qf, r1, r2, r3, r4, r5, r6⟩⟩
      · subst hg
        obtain rfl : m2.length = q9 := nI_inj' (r6.2.2.2.1.symm.trans hq9) (by omega) (by omega)
        rw [hoc] at r6
        have hF9 : FrP S0 (emS U m2.length (nI 21)) := (((hF.si (Or.inl rfl) _).tr hFU)).em _ _
        have hU9 : ∀ z ∈ U2 ++ [t p1], 5 ≤ lev z := by
          intro z hz
          rcases List.mem_append.mp hz with hz | hz
          · have := r4 z hz; omega
          · rw [List.mem_singleton.mp hz]; omega
        have h3a : crn t p2 = some (c2, (U2 ++ [t p1]) ++ W, d2, false, as) := by rw [List.append_assoc]; exact r3
        have h5a : rlL (emA (U2 ++ [t p1]) c2) (nI 21 :: m2) := by rw [emA_app]; exact ⟨Or.inr (Or.inr (Or.inr (Or.inr (Or.inr (Or.inr ⟨21, by rw [Int32.neg_neg, hbv]; exact (by unfold bnR; decide), rfl⟩))))), r5⟩
        have h7a : (nI 21 :: m2).length + p ≤ m.length + p2 := by simp only [List.length_cons]; omega
        have h8a : nxO 6 t n p2 c2 ((U2 ++ [t p1]) ++ W) d2 := by rw [List.append_assoc]; exact r8
        refine k_forget 2 (L2 := [_, _, _]) rfl ?_
        refine k_loc (L2 := [_, .int (nI 1), _]) (by rw [b2i_t (show true = true from rfl)] <;> rfl) ?_
        exact ih p2 c2 (U2 ++ [t p1]) d2 _ _ (by omega) (by omega) r2 h3a hU9 h5a (r6.em _) h7a h8a hF9
      · subst hg
        obtain rfl : qf = q9 := nI_inj' (r5.symm.trans hq9) (by omega) (by omega)
        refine k_forget 2 (L2 := [_, _, _]) rfl ?_
        refine k_loc (L2 := [_, .int (nI 0), _]) (by rw [b2i_f (show ¬ false = true by decide)] <;> rfl) ?_
        exact xX12_readsTimes (((hF.si (Or.inl rfl) _).tr hFU).em _ _) ⟨p2, qf + 1, by omega, r2, r3, r4, rfl, by omega⟩
    refine k_bipush (v := nI 18) eX12_readsTimes_63 (by decide) ?_
    refine k_goto 81 eX12_readsTimes_65 (by decide) ?_
    have hbv : t p1 = nI 42 := by
      rw [← hb]
      first
      | exact c_60
    obtain ⟨q9, hq9, hq9b⟩ := hQ.q hn hP2.2.2.2.2.2
    have h39 : U.1 2640 = nI 3 := (hQ.1.1 2640 (by decide) (by decide) (by decide)).trans q6.2.2.1
    refine cV0 (M' := MX12_emits) eX12_readsTimes_81 mX12_219 wX12_emits vX12_emits ⟨_, _, _, rfl, rfl, rfl⟩ rfl (pX12_emits (S := U) (q := q9) h39 hq9 (by omega) (nI 18)) (by omega) (Nat.le_of_ble_eq_true rfl) ?_
    refine k_goto 5 eX12_readsTimes_84 (by decide) ?_
    rcases hQ with ⟨hFU, ⟨hg, p2, c2, U2, d2, m2, r1, r2, r3, r4, r5, r6, r7, r8⟩ | ⟨hg, p2, qf, r1, r2, r3, r4, r5, r6⟩⟩
    · subst hg
      obtain rfl : m2.length = q9 := nI_inj' (r6.2.2.2.1.symm.trans hq9) (by omega) (by omega)
      rw [hoc] at r6
      have hF9 : FrP S0 (emS U m2.length (nI 18)) := (((hF.si (Or.inl rfl) _).tr hFU)).em _ _
      have hU9 : ∀ z ∈ U2 ++ [t p1], 5 ≤ lev z := by
        intro z hz
        rcases List.mem_append.mp hz with hz | hz
        · have := r4 z hz; omega
        · rw [List.mem_singleton.mp hz]; omega
      have h3a : crn t p2 = some (c2, (U2 ++ [t p1]) ++ W, d2, false, as) := by rw [List.append_assoc]; exact r3
      have h5a : rlL (emA (U2 ++ [t p1]) c2) (nI 18 :: m2) := by rw [emA_app]; exact ⟨Or.inr (Or.inr (Or.inr (Or.inr (Or.inr (Or.inr ⟨18, by rw [Int32.neg_neg, hbv]; exact (by unfold bnR; decide), rfl⟩))))), r5⟩
      have h7a : (nI 18 :: m2).length + p ≤ m.length + p2 := by simp only [List.length_cons]; omega
      have h8a : nxO 6 t n p2 c2 ((U2 ++ [t p1]) ++ W) d2 := by rw [List.append_assoc]; exact r8
      refine k_forget 2 (L2 := [_, _, _]) rfl ?_
      refine k_loc (L2 := [_, .int (nI 1), _]) (by rw [b2i_t (show true = true from rfl)] <;> rfl) ?_
      exact ih p2 c2 (U2 ++ [t p1]) d2 _ _ (by omega) (by omega) r2 h3a hU9 h5a (r6.em _) h7a h8a hF9
    · subst hg
      obtain rfl : qf = q9 := nI_inj' (r5.symm.trans hq9) (by omega) (by omega)
      refine k_forget 2 (L2 := [_, _, _]) rfl ?_
      refine k_loc (L2 := [_, .int (nI 0), _]) (by rw [b2i_f (show ¬ false = true by decide)] <;> rfl) ?_
      exact xX12_readsTimes (((hF.si (Or.inl rfl) _).tr hFU).em _ _) ⟨p2, qf + 1, by omega, r2, r3, r4, rfl, by omega⟩
theorem cTimes {f D : Nat} (hS : RdC MX12_readsOne 6 D f) : RdC MX12_readsTimes 5 (D + 1) f := by
  intro S t n p c W dg as m hP hk hf
  obtain ⟨hn, hpn, hc, hrl, hR, hml⟩ := hP
  refine Sp_of (by decide +kernel) (Nat.le_of_ble_eq_true rfl) ?_
  show AW none MX12_readsTimes (D + 1) 0 0 0 [.ref 52, .null, .null] [] (hp S) _
  refine k_aload_n eX12_readsTimes_0 rfl ?_
  refine cVB (M' := MX12_readsOne) eX12_readsTimes_1 mX12_235 wX12_readsOne vX12_readsOne ⟨_, _, _, rfl, rfl, rfl⟩ rfl (hS (S := S) ⟨hn, hpn, hc, hrl, hR, hml⟩ (fun _ => by have := hk (by decide); omega) hf) (by omega) (Nat.le_of_ble_eq_true rfl) ?_
  intro g U hQ
  refine k_istore_n (L2 := [_, _, _]) eX12_readsTimes_4 (Nat.le_of_ble_eq_true rfl) rfl ?_
  rcases hQ.2 with ⟨hg, p1, c1, U1, d1, m1, q1, q2, q3, hU, q5, q6, q7, q8⟩ | ⟨hg, hFa⟩
  · subst hg
    refine k_loc (L2 := [_, .int (nI 1), _]) (by rw [b2i_t (show true = true from rfl)] <;> rfl) ?_
    exact lX12_readsTimes hS hn hml (hk (by decide)) hf (by omega) (by omega) (n - p1 + 1) p1 c1 U1 d1 m1 U (by omega) q1 q2 q3 (fun z hz => by have := hU z hz; omega) q5 q6 q7 q8 hQ.1
  · subst hg
    refine k_loc (L2 := [_, .int (nI 0), _]) (by rw [b2i_f (show ¬ false = true by decide)] <;> rfl) ?_
    exact xX12_readsTimes hQ.1 hFa
theorem xX12_readsSum {d0 : Nat} {S0 : k_S} {t : Nat → Int32} {n p : Nat} {W : List Int32} {as : Bool} {m : List Int32} {S : k_S} (hF : FrP S0 S) (hFa : PsF t n p m S) : AW none MX12_readsSum d0 0 0 5 [.ref 52, .int (nI 0), .null] [] (hp S) (RdQ S0 4 t n p W as m) := by
  refine k_iload_n eX12_readsSum_5 rfl ?_
  refine k_if_eqN 67 eX12_readsSum_6 (by decide) (by omega) (fun c_6 => ?_) (fun c_6 => by exfalso; omega)
  refine k_iload_n eX12_readsSum_67 rfl ?_
  refine k_ireturn eX12_readsSum_68 rfl rfl ?_
  exact ⟨false, S, rt_f (by decide), rfl, hF, Or.inr ⟨rfl, hFa⟩⟩
set_option maxHeartbeats 1000000 in
theorem lX12_readsSum {d0 : Nat} {f D : Nat} (hS : RdC MX12_readsTimes 5 D f) {S0 : k_S} {t : Nat → Int32} {n p : Nat} {W : List Int32} {as : Bool} {m : List Int32} (hn : n ≤ 120) (hml : m.length ≤ p) (hW : lev (hdI W) < 4) (hf : oc W + f = 6) (hD : D < d0) (hd2 : 1 ≤ d0) : ∀ (r : Nat) (p1 : Nat) (c1 U1 : List Int32) (d1 : Nat) (m1 : List Int32) (S : k_S), n - p1 < r → p < p1 → p1 ≤ n → crn t p1 = some (c1, U1 ++ W, d1, false, as) → (∀ s ∈ U1, 4 ≤ lev s) → rlL (emA U1 c1) m1 → RfS S t n p1 (oc W) m1 → m1.length + p ≤ m.length + p1 → nxO 5 t n p1 c1 (U1 ++ W) d1 → FrP S0 S → AW none MX12_readsSum d0 0 0 5 [.ref 52, .int (nI 1), .null] [] (hp S) (RdQ S0 4 t n p W as m) := by
  intro r
  induction r with
  | zero =>
    intro p1 c1 U1 d1 m1 S hr
    exact absurd hr (Nat.not_lt_zero _)
  | succ r ih =>
    intro p1 c1 U1 d1 m1 S hr q1 q2 q3 hU q5 q6 q7 q8 hF
    refine k_iload_n eX12_readsSum_5 rfl ?_
    refine k_if_eqN 67 eX12_readsSum_6 (by decide) (by omega) (fun c_6 => by exfalso; omega) (fun c_6 => ?_)
    refine k_aload_n eX12_readsSum_9 rfl ?_
    refine cV1 (M' := MX12_here) eX12_readsSum_10 mX12_215 wX12_here vX12_here ⟨_, _, _, rfl, rfl, rfl⟩ rfl (pX12_here (S := S) q6 hn (by omega)) (by omega) (Nat.le_of_ble_eq_true rfl) ?_
    refine k_bipush (v := nI 43) eX12_readsSum_13 (by decide) ?_
    refine k_icmp_eq 27 eX12_readsSum_15 (by decide) (fun c_15 => ?_) (fun c_15 => ?_)
    · obtain ⟨hpn1, hlv⟩ : p1 < n ∧ lev (t p1) = 4 := by
        first
        | (obtain ⟨a1, a2⟩ := hr_in c_15 (by decide); exact ⟨a1, by rw [a2]; decide⟩)
        | (obtain ⟨a1, a2⟩ := hr_in c_24 (by decide); exact ⟨a1, by rw [a2]; decide⟩)
      have hb : hrV t n p1 = t p1 := hr_p hpn1
      have hcn := crn_s q3 (op_st hU hW hlv (by decide) (by decide) (by decide))
      have hoc : oc (t p1 :: W) = oc W := oc_same W (fun z => by
        rcases z with z | z
        · omega
        · rw [z] at hlv; exact absurd hlv (by decide))
      have hP2 : RdP (si S 2638 (nI (p1 + 1))) t n (p1 + 1) (emA U1 c1) (t p1 :: W) 0 as m1 := ⟨hn, by omega, hcn, q5, by rw [hoc]; exact q6.pl (p1 + 1), by omega⟩
      refine k_aload_n eX12_readsSum_27 rfl ?_
      refine cV1 (M' := MX12_here) eX12_readsSum_28 mX12_215 wX12_here vX12_here ⟨_, _, _, rfl, rfl, rfl⟩ rfl (pX12_here (S := S) q6 hn (by omega)) (by omega) (Nat.le_of_ble_eq_true rfl) ?_
      refine k_istore_n (L2 := [_, _, _]) eX12_readsSum_31 (Nat.le_of_ble_eq_true rfl) rfl ?_
      refine k_aload_n eX12_readsSum_32 rfl ?_
      refine k_dup eX12_readsSum_33 rfl ?_
      refine GX12_206 eX12_readsSum_34 rfl ?_
      refine k_topi (nI p1) q6.1 ?_
      refine k_iconst (v := nI 1) eX12_readsSum_37 (by decide) ?_
      refine k_iaddN eX12_readsSum_38 ?_
      refine PX12_206 eX12_readsSum_39 rfl ?_
      refine k_aload_n eX12_readsSum_42 rfl ?_
      refine cVB (M' := MX12_readsTimes) eX12_readsSum_43 mX12_238 wX12_readsTimes vX12_readsTimes ⟨_, _, _, rfl, rfl, rfl⟩ rfl (hS (S := si S 2638 (nI (p1 + 1))) hP2 (fun _ => by show lev (t p1) < 5; omega) (by rw [hoc]; exact hf)) (by omega) (Nat.le_of_ble_eq_true rfl) ?_
      intro g U hQ
      refine k_istore_n (L2 := [_, _, _]) eX12_readsSum_46 (Nat.le_of_ble_eq_true rfl) rfl ?_
      refine k_aload_n eX12_readsSum_47 rfl ?_
      refine k_iload_n eX12_readsSum_48 rfl ?_
      refine k_bipush (v := nI 43) eX12_readsSum_49 (by decide) ?_
      refine k_icmp_ne 59 eX12_readsSum_51 (by decide) (fun c_51 => ?_) (fun c_51 => ?_)
      · refine k_bipush (v := nI 17) eX12_readsSum_59 (by decide) ?_
        have hbv : t p1 = nI 45 := by
          rw [← hb]
          first
          | exact c_24
          | exact absurd c_15 c_51
        obtain ⟨q9, hq9, hq9b⟩ := hQ.q hn hP2.2.2.2.2.2
        have h39 : U.1 2640 = nI 3 := (hQ.1.1 2640 (by decide) (by decide) (by decide)).trans q6.2.2.1
        refine cV0 (M' := MX12_emits) eX12_readsSum_61 mX12_219 wX12_emits vX12_emits ⟨_, _, _, rfl, rfl, rfl⟩ rfl (pX12_emits (S := U) (q := q9) h39 hq9 (by omega) (nI 17)) (by omega) (Nat.le_of_ble_eq_true rfl) ?_
        refine k_goto 5 eX12_readsSum_64 (by decide) ?_
        rcases hQ with ⟨hFU, ⟨hg, p2, c2, U2, d2, m2, r1, r2, r3, r4, r5, r6, r7, r8⟩ | ⟨hg, p2, qf, r1, r2, r3, r4, r5, r6⟩⟩
        · subst hg
          obtain rfl : m2.length = q9 := nI_inj' (r6.2.2.2.1.symm.trans hq9) (by omega) (by omega)
          rw [hoc] at r6
          have hF9 : FrP S0 (emS U m2.length (nI 17)) := (((hF.si (Or.inl rfl) _).tr hFU)).em _ _
          have hU9 : ∀ z ∈ U2 ++ [t p1], 4 ≤ lev z := by
            intro z hz
            rcases List.mem_append.mp hz with hz | hz
            · have := r4 z hz; omega
            · rw [List.mem_singleton.mp hz]; omega
          have h3a : crn t p2 = some (c2, (U2 ++ [t p1]) ++ W, d2, false, as) := by rw [List.append_assoc]; exact r3
          have h5a : rlL (emA (U2 ++ [t p1]) c2) (nI 17 :: m2) := by rw [emA_app]; exact ⟨Or.inr (Or.inr (Or.inr (Or.inr (Or.inr (Or.inr ⟨17, by rw [Int32.neg_neg, hbv]; exact (by unfold bnR; decide), rfl⟩))))), r5⟩
          have h7a : (nI 17 :: m2).length + p ≤ m.length + p2 := by simp only [List.length_cons]; omega
          have h8a : nxO 5 t n p2 c2 ((U2 ++ [t p1]) ++ W) d2 := by rw [List.append_assoc]; exact r8
          refine k_forget 2 (L2 := [_, _, _]) rfl ?_
          refine k_loc (L2 := [_, .int (nI 1), _]) (by rw [b2i_t (show true = true from rfl)] <;> rfl) ?_
          exact ih p2 c2 (U2 ++ [t p1]) d2 _ _ (by omega) (by omega) r2 h3a hU9 h5a (r6.em _) h7a h8a hF9
        · subst hg
          obtain rfl : qf = q9 := nI_inj' (r5.symm.trans hq9) (by omega) (by omega)
          refine k_forget 2 (L2 := [_, _, _]) rfl ?_
          refine k_loc (L2 := [_, .int (nI 0), _]) (by rw [b2i_f (show ¬ false = true by decide)] <;> rfl) ?_
          exact xX12_readsSum (((hF.si (Or.inl rfl) _).tr hFU).em _ _) ⟨p2, qf + 1, by omega, r2, r3, r4, rfl, by omega⟩
      refine k_bipush (v := nI 16) eX12_readsSum_54 (by decide) ?_
      refine k_goto 61 eX12_readsSum_56 (by decide) ?_
      have hbv : t p1 = nI 43 := by
        rw [← hb]
        first
        | exact c_51
      obtain ⟨q9, hq9, hq9b⟩ := hQ.q hn hP2.2.2.2.2.2
      have h39 : U.1 2640 = nI 3 := (hQ.1.1 2640 (by decide) (by decide) (by decide)).trans q6.2.2.1
      refine cV0 (M' := MX12_emits) eX12_readsSum_61 mX12_219 wX12_emits vX12_emits ⟨_, _, _, rfl, rfl, rfl⟩ rfl (pX12_emits (S := U) (q := q9) h39 hq9 (by omega) (nI 16)) (by omega) (Nat.le_of_ble_eq_true rfl) ?_
      refine k_goto 5 eX12_readsSum_64 (by decide) ?_
      rcases hQ with ⟨hFU, ⟨hg, p2, c2, U2, d2, m2, r1, r2, r3, r4, r5, r6, r7, r8⟩ | ⟨hg, p2, qf, r1, r2, r3, r4, r5, r6⟩⟩
      · subst hg
        obtain rfl : m2.length = q9 := nI_inj' (r6.2.2.2.1.symm.trans hq9) (by omega) (by omega)
        rw [hoc] at r6
        have hF9 : FrP S0 (emS U m2.length (nI 16)) := (((hF.si (Or.inl rfl) _).tr hFU)).em _ _
        have hU9 : ∀ z ∈ U2 ++ [t p1], 4 ≤ lev z := by
          intro z hz
          rcases List.mem_append.mp hz with hz | hz
          · have := r4 z hz; omega
          · rw [List.mem_singleton.mp hz]; omega
        have h3a : crn t p2 = some (c2, (U2 ++ [t p1]) ++ W, d2, false, as) := by rw [List.append_assoc]; exact r3
        have h5a : rlL (emA (U2 ++ [t p1]) c2) (nI 16 :: m2) := by rw [emA_app]; exact ⟨Or.inr (Or.inr (Or.inr (Or.inr (Or.inr (Or.inr ⟨16, by rw [Int32.neg_neg, hbv]; exact (by unfold bnR; decide), rfl⟩))))), r5⟩
        have h7a : (nI 16 :: m2).length + p ≤ m.length + p2 := by simp only [List.length_cons]; omega
        have h8a : nxO 5 t n p2 c2 ((U2 ++ [t p1]) ++ W) d2 := by rw [List.append_assoc]; exact r8
        refine k_forget 2 (L2 := [_, _, _]) rfl ?_
        refine k_loc (L2 := [_, .int (nI 1), _]) (by rw [b2i_t (show true = true from rfl)] <;> rfl) ?_
        exact ih p2 c2 (U2 ++ [t p1]) d2 _ _ (by omega) (by omega) r2 h3a hU9 h5a (r6.em _) h7a h8a hF9
      · subst hg
        obtain rfl : qf = q9 := nI_inj' (r5.symm.trans hq9) (by omega) (by omega)
        refine k_forget 2 (L2 := [_, _, _]) rfl ?_
        refine k_loc (L2 := [_, .int (nI 0), _]) (by rw [b2i_f (show ¬ false = true by decide)] <;> rfl) ?_
        exact xX12_readsSum (((hF.si (Or.inl rfl) _).tr hFU).em _ _) ⟨p2, qf + 1, by omega, r2, r3, r4, rfl, by omega⟩
    refine k_aload_n eX12_readsSum_18 rfl ?_
    refine cV1 (M' := MX12_here) eX12_readsSum_19 mX12_215 wX12_here vX12_here ⟨_, _, _, rfl, rfl, rfl⟩ rfl (pX12_here (S := S) q6 hn (by omega)) (by omega) (Nat.le_of_ble_eq_true rfl) ?_
    refine k_bipush (v := nI 45) eX12_readsSum_22 (by decide) ?_
    refine k_icmp_ne 67 eX12_readsSum_24 (by decide) (fun c_24 => ?_) (fun c_24 => ?_)
    · refine k_iload_n eX12_readsSum_67 rfl ?_
      refine k_ireturn eX12_readsSum_68 rfl rfl ?_
      refine ⟨true, S, rt_t rfl, rfl, hF, Or.inl ⟨rfl, p1, c1, U1, d1, m1, q1, q2, q3, (fun z hz => by have := hU z hz; omega), q5, q6, q7, nxO_dn q8 (fun hp hl => by rcases lev_4 hl with z | z <;> first | exact absurd z (fun z => c_15 (by rw [hr_p hp]; exact z)) | exact absurd z (fun z => c_24 (by rw [hr_p hp]; exact z)))⟩⟩
    obtain ⟨hpn1, hlv⟩ : p1 < n ∧ lev (t p1) = 4 := by
      first
      | (obtain ⟨a1, a2⟩ := hr_in c_15 (by decide); exact ⟨a1, by rw [a2]; decide⟩)
      | (obtain ⟨a1, a2⟩ := hr_in c_24 (by decide); exact ⟨a1, by rw [a2]; decide⟩)
    have hb : hrV t n p1 = t p1 := hr_p hpn1
    have hcn := crn_s q3 (op_st hU hW hlv (by decide) (by decide) (by decide))
    have hoc : oc (t p1 :: W) = oc W := oc_same W (fun z => by
      rcases z with z | z
      · omega
      · rw [z] at hlv; exact absurd hlv (by decide))
    have hP2 : RdP (si S 2638 (nI (p1 + 1))) t n (p1 + 1) (emA U1 c1) (t p1 :: W) 0 as m1 := ⟨hn, by omega, hcn, q5, by rw [hoc]; exact q6.pl (p1 + 1), by omega⟩
    refine k_aload_n eX12_readsSum_27 rfl ?_
    refine cV1 (M' := MX12_here) eX12_readsSum_28 mX12_215 wX12_here vX12_here ⟨_, _, _, rfl, rfl, rfl⟩ rfl (pX12_here (S := S) q6 hn (by omega)) (by omega) (Nat.le_of_ble_eq_true rfl) ?_
    refine k_istore_n (L2 := [_, _, _]) eX12_readsSum_31 (Nat.le_of_ble_eq_true rfl) rfl ?_
    refine k_aload_n eX12_readsSum_32 rfl ?_
    refine k_dup eX12_readsSum_33 rfl ?_
    refine GX12_206 eX12_readsSum_34 rfl ?_
    refine k_topi (nI p1) q6.1 ?_
    refine k_iconst (v := nI 1) eX12_readsSum_37 (by decide) ?_
    refine k_iaddN eX12_readsSum_38 ?_
    refine PX12_206 eX12_readsSum_39 rfl ?_
    refine k_aload_n eX12_readsSum_42 rfl ?_
    refine cVB (M' := MX12_readsTimes) eX12_readsSum_43 mX12_238 wX12_readsTimes vX12_readsTimes ⟨_, _, _, rfl, rfl, rfl⟩ rfl (hS (S := si S 2638 (nI (p1 + 1))) hP2 (fun _ => by show lev (t p1) < 5; omega) (by rw [hoc]; exact hf)) (by omega) (Nat.le_of_ble_eq_true rfl) ?_
    intro g U hQ
    refine k_istore_n (L2 := [_, _, _]) eX12_readsSum_46 (Nat.le_of_ble_eq_true rfl) rfl ?_
    refine k_aload_n eX12_readsSum_47 rfl ?_
    refine k_iload_n eX12_readsSum_48 rfl ?_
    refine k_bipush (v := nI 43) eX12_readsSum_49 (by decide) ?_
    refine k_icmp_ne 59 eX12_readsSum_51 (by decide) (fun c_51 => ?_) (fun c_51 => ?_)
    · refine k_bipush (v := nI 17) eX12_readsSum_59 (by decide) ?_
      have hbv : t p1 = nI 45 := by
        rw [← hb]
        first
        | exact c_24
        | exact absurd c_15 c_51
      obtain ⟨q9, hq9, hq9b⟩ := hQ.q hn hP2.2.2.2.2.2
      have h39 : U.1 2640 = nI 3 := (hQ.1.1 2640 (by decide) (by decide) (by decide)).trans q6.2.2.1
      refine cV0 (M' := MX12_emits) eX12_readsSum_61 mX12_219 wX12_emits vX12_emits ⟨_, _, _, rfl, rfl, rfl⟩ rfl (pX12_emits (S := U) (q := q9) h39 hq9 (by omega) (nI 17)) (by omega) (Nat.le_of_ble_eq_true rfl) ?_
      refine k_goto 5 eX12_readsSum_64 (by decide) ?_
      rcases hQ with ⟨hFU, ⟨hg, p2, c2, U2, d2, m2, r1, r2, r3, r4, r5, r6, r7, r8⟩ | ⟨hg, p2, qf, r1, r2, r3, r4, r5, r6⟩⟩
      · subst hg
        obtain rfl : m2.length = q9 := nI_inj' (r6.2.2.2.1.symm.trans hq9) (by omega) (by omega)
        rw [hoc] at r6
        have hF9 : FrP S0 (emS U m2.length (nI 17)) := (((hF.si (Or.inl rfl) _).tr hFU)).em _ _
        have hU9 : ∀ z ∈ U2 ++ [t p1], 4 ≤ lev z := by
          intro z hz
          rcases List.mem_append.mp hz with hz | hz
          · have := r4 z hz; omega
          · rw [List.mem_singleton.mp hz]; omega
        have h3a : crn t p2 = some (c2, (U2 ++ [t p1]) ++ W, d2, false, as) := by rw [List.append_assoc]; exact r3
        have h5a : rlL (emA (U2 ++ [t p1]) c2) (nI 17 :: m2) := by rw [emA_app]; exact ⟨Or.inr (Or.inr (Or.inr (Or.inr (Or.inr (Or.inr ⟨17, by rw [Int32.neg_neg, hbv]; exact (by unfold bnR; decide), rfl⟩))))), r5⟩
        have h7a : (nI 17 :: m2).length + p ≤ m.length + p2 := by simp only [List.length_cons]; omega
        have h8a : nxO 5 t n p2 c2 ((U2 ++ [t p1]) ++ W) d2 := by rw [List.append_assoc]; exact r8
        refine k_forget 2 (L2 := [_, _, _]) rfl ?_
        refine k_loc (L2 := [_, .int (nI 1), _]) (by rw [b2i_t (show true = true from rfl)] <;> rfl) ?_
        exact ih p2 c2 (U2 ++ [t p1]) d2 _ _ (by omega) (by omega) r2 h3a hU9 h5a (r6.em _) h7a h8a hF9
      · subst hg
        obtain rfl : qf = q9 := nI_inj' (r5.symm.trans hq9) (by omega) (by omega)
        refine k_forget 2 (L2 := [_, _, _]) rfl ?_
        refine k_loc (L2 := [_, .int (nI 0), _]) (by rw [b2i_f (show ¬ false = true by decide)] <;> rfl) ?_
        exact xX12_readsSum (((hF.si (Or.inl rfl) _).tr hFU).em _ _) ⟨p2, qf + 1, by omega, r2, r3, r4, rfl, by omega⟩
    refine k_bipush (v := nI 16) eX12_readsSum_54 (by decide) ?_
    refine k_goto 61 eX12_readsSum_56 (by decide) ?_
    have hbv : t p1 = nI 43 := by
      rw [← hb]
      first
      | exact c_51
    obtain ⟨q9, hq9, hq9b⟩ := hQ.q hn hP2.2.2.2.2.2
    have h39 : U.1 2640 = nI 3 := (hQ.1.1 2640 (by decide) (by decide) (by decide)).trans q6.2.2.1
    refine cV0 (M' := MX12_emits) eX12_readsSum_61 mX12_219 wX12_emits vX12_emits ⟨_, _, _, rfl, rfl, rfl⟩ rfl (pX12_emits (S := U) (q := q9) h39 hq9 (by omega) (nI 16)) (by omega) (Nat.le_of_ble_eq_true rfl) ?_
    refine k_goto 5 eX12_readsSum_64 (by decide) ?_
    rcases hQ with ⟨hFU, ⟨hg, p2, c2, U2, d2, m2, r1, r2, r3, r4, r5, r6, r7, r8⟩ | ⟨hg, p2, qf, r1, r2, r3, r4, r5, r6⟩⟩
    · subst hg
      obtain rfl : m2.length = q9 := nI_inj' (r6.2.2.2.1.symm.trans hq9) (by omega) (by omega)
      rw [hoc] at r6
      have hF9 : FrP S0 (emS U m2.length (nI 16)) := (((hF.si (Or.inl rfl) _).tr hFU)).em _ _
      have hU9 : ∀ z ∈ U2 ++ [t p1], 4 ≤ lev z := by
        intro z hz
        rcases List.mem_append.mp hz with hz | hz
        · have := r4 z hz; omega
        · rw [List.mem_singleton.mp hz]; omega
      have h3a : crn t p2 = some (c2, (U2 ++ [t p1]) ++ W, d2, false, as) := by rw [List.append_assoc]; exact r3
      have h5a : rlL (emA (U2 ++ [t p1]) c2) (nI 16 :: m2) := by rw [emA_app]; exact ⟨Or.inr (Or.inr (Or.inr (Or.inr (Or.inr (Or.inr ⟨16, by rw [Int32.neg_neg, hbv]; exact (by unfold bnR; decide), rfl⟩))))), r5⟩
      have h7a : (nI 16 :: m2).length + p ≤ m.length + p2 := by simp only [List.length_cons]; omega
      have h8a : nxO 5 t n p2 c2 ((U2 ++ [t p1]) ++ W) d2 := by rw [List.append_assoc]; exact r8
      refine k_forget 2 (L2 := [_, _, _]) rfl ?_
      refine k_loc (L2 := [_, .int (nI 1), _]) (by rw [b2i_t (show true = true from rfl)] <;> rfl) ?_
      exact ih p2 c2 (U2 ++ [t p1]) d2 _ _ (by omega) (by omega) r2 h3a hU9 h5a (r6.em _) h7a h8a hF9
    · subst hg
      obtain rfl : qf = q9 := nI_inj' (r5.symm.trans hq9) (by omega) (by omega)
      refine k_forget 2 (L2 := [_, _, _]) rfl ?_
      refine k_loc (L2 := [_, .int (nI 0), _]) (by rw [b2i_f (show ¬ false = true by decide)] <;> rfl) ?_
      exact xX12_readsSum (((hF.si (Or.inl rfl) _).tr hFU).em _ _) ⟨p2, qf + 1, by omega, r2, r3, r4, rfl, by omega⟩
theorem cSum {f D : Nat} (hS : RdC MX12_readsTimes 5 D f) : RdC MX12_readsSum 4 (D + 1) f := by
  intro S t n p c W dg as m hP hk hf
  obtain ⟨hn, hpn, hc, hrl, hR, hml⟩ := hP
  refine Sp_of (by decide +kernel) (Nat.le_of_ble_eq_true rfl) ?_
  show AW none MX12_readsSum (D + 1) 0 0 0 [.ref 52, .null, .null] [] (hp S) _
  refine k_aload_n eX12_readsSum_0 rfl ?_
  refine cVB (M' := MX12_readsTimes) eX12_readsSum_1 mX12_238 wX12_readsTimes vX12_readsTimes ⟨_, _, _, rfl, rfl, rfl⟩ rfl (hS (S := S) ⟨hn, hpn, hc, hrl, hR, hml⟩ (fun _ => by have := hk (by decide); omega) hf) (by omega) (Nat.le_of_ble_eq_true rfl) ?_
  intro g U hQ
  refine k_istore_n (L2 := [_, _, _]) eX12_readsSum_4 (Nat.le_of_ble_eq_true rfl) rfl ?_
  rcases hQ.2 with ⟨hg, p1, c1, U1, d1, m1, q1, q2, q3, hU, q5, q6, q7, q8⟩ | ⟨hg, hFa⟩
  · subst hg
    refine k_loc (L2 := [_, .int (nI 1), _]) (by rw [b2i_t (show true = true from rfl)] <;> rfl) ?_
    exact lX12_readsSum hS hn hml (hk (by decide)) hf (by omega) (by omega) (n - p1 + 1) p1 c1 U1 d1 m1 U (by omega) q1 q2 q3 (fun z hz => by have := hU z hz; omega) q5 q6 q7 q8 hQ.1
  · subst hg
    refine k_loc (L2 := [_, .int (nI 0), _]) (by rw [b2i_f (show ¬ false = true by decide)] <;> rfl) ?_
    exact xX12_readsSum hQ.1 hFa
theorem xX12_readsLess {d0 : Nat} {S0 : k_S} {t : Nat → Int32} {n p : Nat} {W : List Int32} {as : Bool} {m : List Int32} {S : k_S} (hF : FrP S0 S) (hFa : PsF t n p m S) : AW none MX12_readsLess d0 0 0 5 [.ref 52, .int (nI 0), .null] [] (hp S) (RdQ S0 3 t n p W as m) := by
  refine k_iload_n eX12_readsLess_5 rfl ?_
  refine k_if_eqN 84 eX12_readsLess_6 (by decide) (by omega) (fun c_6 => ?_) (fun c_6 => by exfalso; omega)
  refine k_iload_n eX12_readsLess_84 rfl ?_
  refine k_ireturn eX12_readsLess_85 rfl rfl ?_
  exact ⟨false, S, rt_f (by decide), rfl, hF, Or.inr ⟨rfl, hFa⟩⟩
set_option maxHeartbeats 1000000 in
theorem lX12_readsLess {d0 : Nat} {f D : Nat} (hS : RdC MX12_readsSum 4 D f) {S0 : k_S} {t : Nat → Int32} {n p : Nat} {W : List Int32} {as : Bool} {m : List Int32} (hn : n ≤ 120) (hml : m.length ≤ p) (hW : lev (hdI W) < 3) (hf : oc W + f = 6) (hD : D < d0) (hd2 : 1 ≤ d0) (p1 : Nat) (c1 U1 : List Int32) (d1 : Nat) (m1 : List Int32) (S : k_S) (q1 : p < p1) (q2 : p1 ≤ n) (q3 : crn t p1 = some (c1, U1 ++ W, d1, false, as)) (hU : ∀ s ∈ U1, 4 ≤ lev s) (q5 : rlL (emA U1 c1) m1) (q6 : RfS S t n p1 (oc W) m1) (q7 : m1.length + p ≤ m.length + p1) (q8 : nxO 4 t n p1 c1 (U1 ++ W) d1) (hF : FrP S0 S) : AW none MX12_readsLess d0 0 0 5 [.ref 52, .int (nI 1), .null] [] (hp S) (RdQ S0 3 t n p W as m) := by
  refine k_iload_n eX12_readsLess_5 rfl ?_
  refine k_if_eqN 84 eX12_readsLess_6 (by decide) (by omega) (fun c_6 => by exfalso; omega) (fun c_6 => ?_)
  refine k_aload_n eX12_readsLess_9 rfl ?_
  refine cV1 (M' := MX12_here) eX12_readsLess_10 mX12_215 wX12_here vX12_here ⟨_, _, _, rfl, rfl, rfl⟩ rfl (pX12_here (S := S) q6 hn (by omega)) (by omega) (Nat.le_of_ble_eq_true rfl) ?_
  refine k_bipush (v := nI 60) eX12_readsLess_13 (by decide) ?_
  refine k_icmp_eq 36 eX12_readsLess_15 (by decide) (fun c_15 => ?_) (fun c_15 => ?_)
  · obtain ⟨hpn1, hlv⟩ : p1 < n ∧ lev (t p1) = 3 := by
      first
      | (obtain ⟨a1, a2⟩ := hr_in c_15 (by decide); exact ⟨a1, by rw [a2]; decide⟩)
      | (obtain ⟨a1, a2⟩ := hr_in c_24 (by decide); exact ⟨a1, by rw [a2]; decide⟩)
      | (obtain ⟨a1, a2⟩ := hr_in c_33 (by decide); exact ⟨a1, by rw [a2]; decide⟩)
    have hb : hrV t n p1 = t p1 := hr_p hpn1
    have hcn := crn_s q3 (op_3 hU hW hlv)
    have hoc : oc (t p1 :: W) = oc W := oc_same W (fun z => by
      rcases z with z | z
      · omega
      · rw [z] at hlv; exact absurd hlv (by decide))
    have hP2 : RdP (si S 2638 (nI (p1 + 1))) t n (p1 + 1) (emA U1 c1) (t p1 :: W) 0 as m1 := ⟨hn, by omega, hcn, q5, by rw [hoc]; exact q6.pl (p1 + 1), by omega⟩
    refine k_aload_n eX12_readsLess_36 rfl ?_
    refine cV1 (M' := MX12_here) eX12_readsLess_37 mX12_215 wX12_here vX12_here ⟨_, _, _, rfl, rfl, rfl⟩ rfl (pX12_here (S := S) q6 hn (by omega)) (by omega) (Nat.le_of_ble_eq_true rfl) ?_
    refine k_istore_n (L2 := [_, _, _]) eX12_readsLess_40 (Nat.le_of_ble_eq_true rfl) rfl ?_
    refine k_aload_n eX12_readsLess_41 rfl ?_
    refine k_dup eX12_readsLess_42 rfl ?_
    refine GX12_206 eX12_readsLess_43 rfl ?_
    refine k_topi (nI p1) q6.1 ?_
    refine k_iconst (v := nI 1) eX12_readsLess_46 (by decide) ?_
    refine k_iaddN eX12_readsLess_47 ?_
    refine PX12_206 eX12_readsLess_48 rfl ?_
    refine k_aload_n eX12_readsLess_51 rfl ?_
    refine cVB (M' := MX12_readsSum) eX12_readsLess_52 mX12_241 wX12_readsSum vX12_readsSum ⟨_, _, _, rfl, rfl, rfl⟩ rfl (hS (S := si S 2638 (nI (p1 + 1))) hP2 (fun _ => by show lev (t p1) < 4; omega) (by rw [hoc]; exact hf)) (by omega) (Nat.le_of_ble_eq_true rfl) ?_
    intro g U hQ
    refine k_istore_n (L2 := [_, _, _]) eX12_readsLess_55 (Nat.le_of_ble_eq_true rfl) rfl ?_
    refine k_aload_n eX12_readsLess_56 rfl ?_
    refine k_iload_n eX12_readsLess_57 rfl ?_
    refine k_bipush (v := nI 60) eX12_readsLess_58 (by decide) ?_
    refine k_icmp_ne 68 eX12_readsLess_60 (by decide) (fun c_60 => ?_) (fun c_60 => ?_)
    · refine k_iload_n eX12_readsLess_68 rfl ?_
      refine k_bipush (v := nI 61) eX12_readsLess_69 (by decide) ?_
      refine k_icmp_ne 79 eX12_readsLess_71 (by decide) (fun c_71 => ?_) (fun c_71 => ?_)
      · refine k_bipush (v := nI 20) eX12_readsLess_79 (by decide) ?_
        have hbv : t p1 = nI 62 := by
          rw [← hb]
          first
          | exact c_33
          | exact absurd c_15 c_60
          | exact absurd c_24 c_71
        obtain ⟨q9, hq9, hq9b⟩ := hQ.q hn hP2.2.2.2.2.2
        have h39 : U.1 2640 = nI 3 := (hQ.1.1 2640 (by decide) (by decide) (by decide)).trans q6.2.2.1
        refine cV0 (M' := MX12_emits) eX12_readsLess_81 mX12_219 wX12_emits vX12_emits ⟨_, _, _, rfl, rfl, rfl⟩ rfl (pX12_emits (S := U) (q := q9) h39 hq9 (by omega) (nI 20)) (by omega) (Nat.le_of_ble_eq_true rfl) ?_
        refine k_iload_n eX12_readsLess_84 rfl ?_
        refine k_ireturn eX12_readsLess_85 rfl (k_nb _) ?_
        rcases hQ with ⟨hFU, ⟨hg, p2, c2, U2, d2, m2, r1, r2, r3, r4, r5, r6, r7, r8⟩ | ⟨hg, p2, qf, r1, r2, r3, r4, r5, r6⟩⟩
        · subst hg
          obtain rfl : m2.length = q9 := nI_inj' (r6.2.2.2.1.symm.trans hq9) (by omega) (by omega)
          rw [hoc] at r6
          have hF9 : FrP S0 (emS U m2.length (nI 20)) := (((hF.si (Or.inl rfl) _).tr hFU)).em _ _
          have hU9 : ∀ z ∈ U2 ++ [t p1], 3 ≤ lev z := by
            intro z hz
            rcases List.mem_append.mp hz with hz | hz
            · have := r4 z hz; omega
            · rw [List.mem_singleton.mp hz]; omega
          have h3a : crn t p2 = some (c2, (U2 ++ [t p1]) ++ W, d2, false, as) := by rw [List.append_assoc]; exact r3
          have h5a : rlL (emA (U2 ++ [t p1]) c2) (nI 20 :: m2) := by rw [emA_app]; exact ⟨Or.inr (Or.inr (Or.inr (Or.inr (Or.inr (Or.inr ⟨20, by rw [Int32.neg_neg, hbv]; exact (by unfold bnR; decide), rfl⟩))))), r5⟩
          have h7a : (nI 20 :: m2).length + p ≤ m.length + p2 := by simp only [List.length_cons]; omega
          have h8a : nxO 4 t n p2 c2 ((U2 ++ [t p1]) ++ W) d2 := by rw [List.append_assoc]; exact r8
          refine ⟨true, _, rfl, rfl, hF9, Or.inl ⟨rfl, p2, c2, U2 ++ [t p1], d2, nI 20 :: m2, by omega, r2, h3a, hU9, h5a, r6.em _, h7a, nxO_dn h8a (fun hp hl => ⟨hl, ?_⟩)⟩⟩
          rw [List.append_assoc]
          show lev (hdI (ew 4 c2 (U2 ++ (t p1 :: W))).2) = 3
          rw [ew_emA (show lev (hdI (t p1 :: W)) < 4 from by show lev (t p1) < 4; omega) U2 c2 r4]
          exact hlv
        · subst hg
          obtain rfl : qf = q9 := nI_inj' (r5.symm.trans hq9) (by omega) (by omega)
          exact ⟨false, _, rfl, rfl, ((hF.si (Or.inl rfl) _).tr hFU).em _ _, Or.inr ⟨rfl, p2, qf + 1, by omega, r2, r3, r4, rfl, by omega⟩⟩
      refine k_bipush (v := nI 15) eX12_readsLess_74 (by decide) ?_
      refine k_goto 81 eX12_readsLess_76 (by decide) ?_
      have hbv : t p1 = nI 61 := by
        rw [← hb]
        first
        | exact c_71
      obtain ⟨q9, hq9, hq9b⟩ := hQ.q hn hP2.2.2.2.2.2
      have h39 : U.1 2640 = nI 3 := (hQ.1.1 2640 (by decide) (by decide) (by decide)).trans q6.2.2.1
      refine cV0 (M' := MX12_emits) eX12_readsLess_81 mX12_219 wX12_emits vX12_emits ⟨_, _, _, rfl, rfl, rfl⟩ rfl (pX12_emits (S := U) (q := q9) h39 hq9 (by omega) (nI 15)) (by omega) (Nat.le_of_ble_eq_true rfl) ?_
      refine k_iload_n eX12_readsLess_84 rfl ?_
      refine k_ireturn eX12_readsLess_85 rfl (k_nb _) ?_
      rcases hQ with ⟨hFU, ⟨hg, p2, c2, U2, d2, m2, r1, r2, r3, r4, r5, r6, r7, r8⟩ | ⟨hg, p2, qf, r1, r2, r3, r4, r5, r6⟩⟩
      · subst hg
        obtain rfl : m2.length = q9 := nI_inj' (r6.2.2.2.1.symm.trans hq9) (by omega) (by omega)
        rw [hoc] at r6
        have hF9 : FrP S0 (emS U m2.length (nI 15)) := (((hF.si (Or.inl rfl) _).tr hFU)).em _ _
        have hU9 : ∀ z ∈ U2 ++ [t p1], 3 ≤ lev z := by
          intro z hz
          rcases List.mem_append.mp hz with hz | hz
          · have := r4 z hz; omega
          · rw [List.mem_singleton.mp hz]; omega
        have h3a : crn t p2 = some (c2, (U2 ++ [t p1]) ++ W, d2, false, as) := by rw [List.append_assoc]; exact r3
        have h5a : rlL (emA (U2 ++ [t p1]) c2) (nI 15 :: m2) := by rw [emA_app]; exact ⟨Or.inr (Or.inr (Or.inr (Or.inr (Or.inr (Or.inr ⟨15, by rw [Int32.neg_neg, hbv]; exact (by unfold bnR; decide), rfl⟩))))), r5⟩
        have h7a : (nI 15 :: m2).length + p ≤ m.length + p2 := by simp only [List.length_cons]; omega
        have h8a : nxO 4 t n p2 c2 ((U2 ++ [t p1]) ++ W) d2 := by rw [List.append_assoc]; exact r8
        refine ⟨true, _, rfl, rfl, hF9, Or.inl ⟨rfl, p2, c2, U2 ++ [t p1], d2, nI 15 :: m2, by omega, r2, h3a, hU9, h5a, r6.em _, h7a, nxO_dn h8a (fun hp hl => ⟨hl, ?_⟩)⟩⟩
        rw [List.append_assoc]
        show lev (hdI (ew 4 c2 (U2 ++ (t p1 :: W))).2) = 3
        rw [ew_emA (show lev (hdI (t p1 :: W)) < 4 from by show lev (t p1) < 4; omega) U2 c2 r4]
        exact hlv
      · subst hg
        obtain rfl : qf = q9 := nI_inj' (r5.symm.trans hq9) (by omega) (by omega)
        exact ⟨false, _, rfl, rfl, ((hF.si (Or.inl rfl) _).tr hFU).em _ _, Or.inr ⟨rfl, p2, qf + 1, by omega, r2, r3, r4, rfl, by omega⟩⟩
    refine k_bipush (v := nI 14) eX12_readsLess_63 (by decide) ?_
    refine k_goto 81 eX12_readsLess_65 (by decide) ?_
    have hbv : t p1 = nI 60 := by
      rw [← hb]
      first
      | exact c_60
    obtain ⟨q9, hq9, hq9b⟩ := hQ.q hn hP2.2.2.2.2.2
    have h39 : U.1 2640 = nI 3 := (hQ.1.1 2640 (by decide) (by decide) (by decide)).trans q6.2.2.1
    refine cV0 (M' := MX12_emits) eX12_readsLess_81 mX12_219 wX12_emits vX12_emits ⟨_, _, _, rfl, rfl, rfl⟩ rfl (pX12_emits (S := U) (q := q9) h39 hq9 (by omega) (nI 14)) (by omega) (Nat.le_of_ble_eq_true rfl) ?_
    refine k_iload_n eX12_readsLess_84 rfl ?_
    refine k_ireturn eX12_readsLess_85 rfl (k_nb _) ?_
    rcases hQ with ⟨hFU, ⟨hg, p2, c2, U2, d2, m2, r1, r2, r3, r4, r5, r6, r7, r8⟩ | ⟨hg, p2, qf, r1, r2, r3, r4, r5, r6⟩⟩
    · subst hg
      obtain rfl : m2.length = q9 := nI_inj' (r6.2.2.2.1.symm.trans hq9) (by omega) (by omega)
      rw [hoc] at r6
      have hF9 : FrP S0 (emS U m2.length (nI 14)) := (((hF.si (Or.inl rfl) _).tr hFU)).em _ _
      have hU9 : ∀ z ∈ U2 ++ [t p1], 3 ≤ lev z := by
        intro z hz
        rcases List.mem_append.mp hz with hz | hz
        · have := r4 z hz; omega
        · rw [List.mem_singleton.mp hz]; omega
      have h3a : crn t p2 = some (c2, (U2 ++ [t p1]) ++ W, d2, false, as) := by rw [List.append_assoc]; exact r3
      have h5a : rlL (emA (U2 ++ [t p1]) c2) (nI 14 :: m2) := by rw [emA_app]; exact ⟨Or.inr (Or.inr (Or.inr (Or.inr (Or.inr (Or.inr ⟨14, by rw [Int32.neg_neg, hbv]; exact (by unfold bnR; decide), rfl⟩))))), r5⟩
      have h7a : (nI 14 :: m2).length + p ≤ m.length + p2 := by simp only [List.length_cons]; omega
      have h8a : nxO 4 t n p2 c2 ((U2 ++ [t p1]) ++ W) d2 := by rw [List.append_assoc]; exact r8
      refine ⟨true, _, rfl, rfl, hF9, Or.inl ⟨rfl, p2, c2, U2 ++ [t p1], d2, nI 14 :: m2, by omega, r2, h3a, hU9, h5a, r6.em _, h7a, nxO_dn h8a (fun hp hl => ⟨hl, ?_⟩)⟩⟩
      rw [List.append_assoc]
      show lev (hdI (ew 4 c2 (U2 ++ (t p1 :: W))).2) = 3
      rw [ew_emA (show lev (hdI (t p1 :: W)) < 4 from by show lev (t p1) < 4; omega) U2 c2 r4]
      exact hlv
    · subst hg
      obtain rfl : qf = q9 := nI_inj' (r5.symm.trans hq9) (by omega) (by omega)
      exact ⟨false, _, rfl, rfl, ((hF.si (Or.inl rfl) _).tr hFU).em _ _, Or.inr ⟨rfl, p2, qf + 1, by omega, r2, r3, r4, rfl, by omega⟩⟩
  refine k_aload_n eX12_readsLess_18 rfl ?_
  refine cV1 (M' := MX12_here) eX12_readsLess_19 mX12_215 wX12_here vX12_here ⟨_, _, _, rfl, rfl, rfl⟩ rfl (pX12_here (S := S) q6 hn (by omega)) (by omega) (Nat.le_of_ble_eq_true rfl) ?_
  refine k_bipush (v := nI 61) eX12_readsLess_22 (by decide) ?_
  refine k_icmp_eq 36 eX12_readsLess_24 (by decide) (fun c_24 => ?_) (fun c_24 => ?_)
  · obtain ⟨hpn1, hlv⟩ : p1 < n ∧ lev (t p1) = 3 := by
      first
      | (obtain ⟨a1, a2⟩ := hr_in c_15 (by decide); exact ⟨a1, by rw [a2]; decide⟩)
      | (obtain ⟨a1, a2⟩ := hr_in c_24 (by decide); exact ⟨a1, by rw [a2]; decide⟩)
      | (obtain ⟨a1, a2⟩ := hr_in c_33 (by decide); exact ⟨a1, by rw [a2]; decide⟩)
    have hb : hrV t n p1 = t p1 := hr_p hpn1
    have hcn := crn_s q3 (op_3 hU hW hlv)
    have hoc : oc (t p1 :: W) = oc W := oc_same W (fun z => by
      rcases z with z | z
      · omega
      · rw [z] at hlv; exact absurd hlv (by decide))
    have hP2 : RdP (si S 2638 (nI (p1 + 1))) t n (p1 + 1) (emA U1 c1) (t p1 :: W) 0 as m1 := ⟨hn, by omega, hcn, q5, by rw [hoc]; exact q6.pl (p1 + 1), by omega⟩
    refine k_aload_n eX12_readsLess_36 rfl ?_
    refine cV1 (M' := MX12_here) eX12_readsLess_37 mX12_215 wX12_here vX12_here ⟨_, _, _, rfl, rfl, rfl⟩ rfl (pX12_here (S := S) q6 hn (by omega)) (by omega) (Nat.le_of_ble_eq_true rfl) ?_
    refine k_istore_n (L2 := [_, _, _]) eX12_readsLess_40 (Nat.le_of_ble_eq_true rfl) rfl ?_
    refine k_aload_n eX12_readsLess_41 rfl ?_
    refine k_dup eX12_readsLess_42 rfl ?_
    refine GX12_206 eX12_readsLess_43 rfl ?_
    refine k_topi (nI p1) q6.1 ?_
    refine k_iconst (v := nI 1) eX12_readsLess_46 (by decide) ?_
    refine k_iaddN eX12_readsLess_47 ?_
    refine PX12_206 eX12_readsLess_48 rfl ?_
    refine k_aload_n eX12_readsLess_51 rfl ?_
    refine cVB (M' := MX12_readsSum) eX12_readsLess_52 mX12_241 wX12_readsSum vX12_readsSum ⟨_, _, _, rfl, rfl, rfl⟩ rfl (hS (S := si S 2638 (nI (p1 + 1))) hP2 (fun _ => by show lev (t p1) < 4; omega) (by rw [hoc]; exact hf)) (by omega) (Nat.le_of_ble_eq_true rfl) ?_
    intro g U hQ
    refine k_istore_n (L2 := [_, _, _]) eX12_readsLess_55 (Nat.le_of_ble_eq_true rfl) rfl ?_
    refine k_aload_n eX12_readsLess_56 rfl ?_
    refine k_iload_n eX12_readsLess_57 rfl ?_
    refine k_bipush (v := nI 60) eX12_readsLess_58 (by decide) ?_
    refine k_icmp_ne 68 eX12_readsLess_60 (by decide) (fun c_60 => ?_) (fun c_60 => ?_)
    · refine k_iload_n eX12_readsLess_68 rfl ?_
      refine k_bipush (v := nI 61) eX12_readsLess_69 (by decide) ?_
      refine k_icmp_ne 79 eX12_readsLess_71 (by decide) (fun c_71 => ?_) (fun c_71 => ?_)
      · refine k_bipush (v := nI 20) eX12_readsLess_79 (by decide) ?_
        have hbv : t p1 = nI 62 := by
          rw [← hb]
          first
          | exact c_33
          | exact absurd c_15 c_60
          | exact absurd c_24 c_71
        obtain ⟨q9, hq9, hq9b⟩ := hQ.q hn hP2.2.2.2.2.2
        have h39 : U.1 2640 = nI 3 := (hQ.1.1 2640 (by decide) (by decide) (by decide)).trans q6.2.2.1
        refine cV0 (M' := MX12_emits) eX12_readsLess_81 mX12_219 wX12_emits vX12_emits ⟨_, _, _, rfl, rfl, rfl⟩ rfl (pX12_emits (S := U) (q := q9) h39 hq9 (by omega) (nI 20)) (by omega) (Nat.le_of_ble_eq_true rfl) ?_
        refine k_iload_n eX12_readsLess_84 rfl ?_
        refine k_ireturn eX12_readsLess_85 rfl (k_nb _) ?_
        rcases hQ with ⟨hFU, ⟨hg, p2, c2, U2, d2, m2, r1, r2, r3, r4, r5, r6, r7, r8⟩ | ⟨hg, p2, qf, r1, r2, r3, r4, r5, r6⟩⟩
        · subst hg
          obtain rfl : m2.length = q9 := nI_inj' (r6.2.2.2.1.symm.trans hq9) (by omega) (by omega)
          rw [hoc] at r6
          have hF9 : FrP S0 (emS U m2.length (nI 20)) := (((hF.si (Or.inl rfl) _).tr hFU)).em _ _
          have hU9 : ∀ z ∈ U2 ++ [t p1], 3 ≤ lev z := by
            intro z hz
            rcases List.mem_append.mp hz with hz | hz
            · have := r4 z hz; omega
            · rw [List.mem_singleton.mp hz]; omega
          have h3a : crn t p2 = some (c2, (U2 ++ [t p1]) ++ W, d2, false, as) := by rw [List.append_assoc]; exact r3
          have h5a : rlL (emA (U2 ++ [t p1]) c2) (nI 20 :: m2) := by rw [emA_app]; exact ⟨Or.inr (Or.inr (Or.inr (Or.inr (Or.inr (Or.inr ⟨20, by rw [Int32.neg_neg, hbv]; exact (by unfold bnR; decide), rfl⟩))))), r5⟩
          have h7a : (nI 20 :: m2).length + p ≤ m.length + p2 := by simp only [List.length_cons]; omega
          have h8a : nxO 4 t n p2 c2 ((U2 ++ [t p1]) ++ W) d2 := by rw [List.append_assoc]; exact r8
          refine ⟨true, _, rfl, rfl, hF9, Or.inl ⟨rfl, p2, c2, U2 ++ [t p1], d2, nI 20 :: m2, by omega, r2, h3a, hU9, h5a, r6.em _, h7a, nxO_dn h8a (fun hp hl => ⟨hl, ?_⟩)⟩⟩
          rw [List.append_assoc]
          show lev (hdI (ew 4 c2 (U2 ++ (t p1 :: W))).2) = 3
          rw [ew_emA (show lev (hdI (t p1 :: W)) < 4 from by show lev (t p1) < 4; omega) U2 c2 r4]
          exact hlv
        · subst hg
          obtain rfl : qf = q9 := nI_inj' (r5.symm.trans hq9) (by omega) (by omega)
          exact ⟨false, _, rfl, rfl, ((hF.si (Or.inl rfl) _).tr hFU).em _ _, Or.inr ⟨rfl, p2, qf + 1, by omega, r2, r3, r4, rfl, by omega⟩⟩
      refine k_bipush (v := nI 15) eX12_readsLess_74 (by decide) ?_
      refine k_goto 81 eX12_readsLess_76 (by decide) ?_
      have hbv : t p1 = nI 61 := by
        rw [← hb]
        first
        | exact c_71
      obtain ⟨q9, hq9, hq9b⟩ := hQ.q hn hP2.2.2.2.2.2
      have h39 : U.1 2640 = nI 3 := (hQ.1.1 2640 (by decide) (by decide) (by decide)).trans q6.2.2.1
      refine cV0 (M' := MX12_emits) eX12_readsLess_81 mX12_219 wX12_emits vX12_emits ⟨_, _, _, rfl, rfl, rfl⟩ rfl (pX12_emits (S := U) (q := q9) h39 hq9 (by omega) (nI 15)) (by omega) (Nat.le_of_ble_eq_true rfl) ?_
      refine k_iload_n eX12_readsLess_84 rfl ?_
      refine k_ireturn eX12_readsLess_85 rfl (k_nb _) ?_
      rcases hQ with ⟨hFU, ⟨hg, p2, c2, U2, d2, m2, r1, r2, r3, r4, r5, r6, r7, r8⟩ | ⟨hg, p2, qf, r1, r2, r3, r4, r5, r6⟩⟩
      · subst hg
        obtain rfl : m2.length = q9 := nI_inj' (r6.2.2.2.1.symm.trans hq9) (by omega) (by omega)
        rw [hoc] at r6
        have hF9 : FrP S0 (emS U m2.length (nI 15)) := (((hF.si (Or.inl rfl) _).tr hFU)).em _ _
        have hU9 : ∀ z ∈ U2 ++ [t p1], 3 ≤ lev z := by
          intro z hz
          rcases List.mem_append.mp hz with hz | hz
          · have := r4 z hz; omega
          · rw [List.mem_singleton.mp hz]; omega
        have h3a : crn t p2 = some (c2, (U2 ++ [t p1]) ++ W, d2, false, as) := by rw [List.append_assoc]; exact r3
        have h5a : rlL (emA (U2 ++ [t p1]) c2) (nI 15 :: m2) := by rw [emA_app]; exact ⟨Or.inr (Or.inr (Or.inr (Or.inr (Or.inr (Or.inr ⟨15, by rw [Int32.neg_neg, hbv]; exact (by unfold bnR; decide), rfl⟩))))), r5⟩
        have h7a : (nI 15 :: m2).length + p ≤ m.length + p2 := by simp only [List.length_cons]; omega
        have h8a : nxO 4 t n p2 c2 ((U2 ++ [t p1]) ++ W) d2 := by rw [List.append_assoc]; exact r8
        refine ⟨true, _, rfl, rfl, hF9, Or.inl ⟨rfl, p2, c2, U2 ++ [t p1], d2, nI 15 :: m2, by omega, r2, h3a, hU9, h5a, r6.em _, h7a, nxO_dn h8a (fun hp hl => ⟨hl, ?_⟩)⟩⟩
        rw [List.append_assoc]
        show lev (hdI (ew 4 c2 (U2 ++ (t p1 :: W))).2) = 3
        rw [ew_emA (show lev (hdI (t p1 :: W)) < 4 from by show lev (t p1) < 4; omega) U2 c2 r4]
        exact hlv
      · subst hg
        obtain rfl : qf = q9 := nI_inj' (r5.symm.trans hq9) (by omega) (by omega)
        exact ⟨false, _, rfl, rfl, ((hF.si (Or.inl rfl) _).tr hFU).em _ _, Or.inr ⟨rfl, p2, qf + 1, by omega, r2, r3, r4, rfl, by omega⟩⟩
    refine k_bipush (v := nI 14) eX12_readsLess_63 (by decide) ?_
    refine k_goto 81 eX12_readsLess_65 (by decide) ?_
    have hbv : t p1 = nI 60 := by
      rw [← hb]
      first
      | exact c_60
    obtain ⟨q9, hq9, hq9b⟩ := hQ.q hn hP2.2.2.2.2.2
    have h39 : U.1 2640 = nI 3 := (hQ.1.1 2640 (by decide) (by decide) (by decide)).trans q6.2.2.1
    refine cV0 (M' := MX12_emits) eX12_readsLess_81 mX12_219 wX12_emits vX12_emits ⟨_, _, _, rfl, rfl, rfl⟩ rfl (pX12_emits (S := U) (q := q9) h39 hq9 (by omega) (nI 14)) (by omega) (Nat.le_of_ble_eq_true rfl) ?_
    refine k_iload_n eX12_readsLess_84 rfl ?_
    refine k_ireturn eX12_readsLess_85 rfl (k_nb _) ?_
    rcases hQ with ⟨hFU, ⟨hg, p2, c2, U2, d2, m2, r1, r2, r3, r4, r5, r6, r7, r8⟩ | ⟨hg, p2, qf, r1, r2, r3, r4, r5, r6⟩⟩
    · subst hg
      obtain rfl : m2.length = q9 := nI_inj' (r6.2.2.2.1.symm.trans hq9) (by omega) (by omega)
      rw [hoc] at r6
      have hF9 : FrP S0 (emS U m2.length (nI 14)) := (((hF.si (Or.inl rfl) _).tr hFU)).em _ _
      have hU9 : ∀ z ∈ U2 ++ [t p1], 3 ≤ lev z := by
        intro z hz
        rcases List.mem_append.mp hz with hz | hz
        · have := r4 z hz; omega
        · rw [List.mem_singleton.mp hz]; omega
      have h3a : crn t p2 = some (c2, (U2 ++ [t p1]) ++ W, d2, false, as) := by rw [List.append_assoc]; exact r3
      have h5a : rlL (emA (U2 ++ [t p1]) c2) (nI 14 :: m2) := by rw [emA_app]; exact ⟨Or.inr (Or.inr (Or.inr (Or.inr (Or.inr (Or.inr ⟨14, by rw [Int32.neg_neg, hbv]; exact (by unfold bnR; decide), rfl⟩))))), r5⟩
      have h7a : (nI 14 :: m2).length + p ≤ m.length + p2 := by simp only [List.length_cons]; omega
      have h8a : nxO 4 t n p2 c2 ((U2 ++ [t p1]) ++ W) d2 := by rw [List.append_assoc]; exact r8
      refine ⟨true, _, rfl, rfl, hF9, Or.inl ⟨rfl, p2, c2, U2 ++ [t p1], d2, nI 14 :: m2, by omega, r2, h3a, hU9, h5a, r6.em _, h7a, nxO_dn h8a (fun hp hl => ⟨hl, ?_⟩)⟩⟩
      rw [List.append_assoc]
      show lev (hdI (ew 4 c2 (U2 ++ (t p1 :: W))).2) = 3
      rw [ew_emA (show lev (hdI (t p1 :: W)) < 4 from by show lev (t p1) < 4; omega) U2 c2 r4]
      exact hlv
    · subst hg
      obtain rfl : qf = q9 := nI_inj' (r5.symm.trans hq9) (by omega) (by omega)
      exact ⟨false, _, rfl, rfl, ((hF.si (Or.inl rfl) _).tr hFU).em _ _, Or.inr ⟨rfl, p2, qf + 1, by omega, r2, r3, r4, rfl, by omega⟩⟩
  refine k_aload_n eX12_readsLess_27 rfl ?_
  refine cV1 (M' := MX12_here) eX12_readsLess_28 mX12_215 wX12_here vX12_here ⟨_, _, _, rfl, rfl, rfl⟩ rfl (pX12_here (S := S) q6 hn (by omega)) (by omega) (Nat.le_of_ble_eq_true rfl) ?_
  refine k_bipush (v := nI 62) eX12_readsLess_31 (by decide) ?_
  refine k_icmp_ne 84 eX12_readsLess_33 (by decide) (fun c_33 => ?_) (fun c_33 => ?_)
  · refine k_iload_n eX12_readsLess_84 rfl ?_
    refine k_ireturn eX12_readsLess_85 rfl rfl ?_
    refine ⟨true, S, rt_t rfl, rfl, hF, Or.inl ⟨rfl, p1, c1, U1, d1, m1, q1, q2, q3, (fun z hz => by have := hU z hz; omega), q5, q6, q7, nxO_dn q8 (fun hp hl => by rcases lev_3 hl with z | z | z <;> first | exact absurd z (fun z => c_15 (by rw [hr_p hp]; exact z)) | exact absurd z (fun z => c_24 (by rw [hr_p hp]; exact z)) | exact absurd z (fun z => c_33 (by rw [hr_p hp]; exact z)))⟩⟩
  obtain ⟨hpn1, hlv⟩ : p1 < n ∧ lev (t p1) = 3 := by
    first
    | (obtain ⟨a1, a2⟩ := hr_in c_15 (by decide); exact ⟨a1, by rw [a2]; decide⟩)
    | (obtain ⟨a1, a2⟩ := hr_in c_24 (by decide); exact ⟨a1, by rw [a2]; decide⟩)
    | (obtain ⟨a1, a2⟩ := hr_in c_33 (by decide); exact ⟨a1, by rw [a2]; decide⟩)
  have hb : hrV t n p1 = t p1 := hr_p hpn1
  have hcn := crn_s q3 (op_3 hU hW hlv)
  have hoc : oc (t p1 :: W) = oc W := oc_same W (fun z => by
    rcases z with z | z
    · omega
    · rw [z] at hlv; exact absurd hlv (by decide))
  have hP2 : RdP (si S 2638 (nI (p1 + 1))) t n (p1 + 1) (emA U1 c1) (t p1 :: W) 0 as m1 := ⟨hn, by omega, hcn, q5, by rw [hoc]; exact q6.pl (p1 + 1), by omega⟩
  refine k_aload_n eX12_readsLess_36 rfl ?_
  refine cV1 (M' := MX12_here) eX12_readsLess_37 mX12_215 wX12_here vX12_here ⟨_, _, _, rfl, rfl, rfl⟩ rfl (pX12_here (S := S) q6 hn (by omega)) (by omega) (Nat.le_of_ble_eq_true rfl) ?_
  refine k_istore_n (L2 := [_, _, _]) eX12_readsLess_40 (Nat.le_of_ble_eq_true rfl) rfl ?_
  refine k_aload_n eX12_readsLess_41 rfl ?_
  refine k_dup eX12_readsLess_42 rfl ?_
  refine GX12_206 eX12_readsLess_43 rfl ?_
  refine k_topi (nI p1) q6.1 ?_
  refine k_iconst (v := nI 1) eX12_readsLess_46 (by decide) ?_
  refine k_iaddN eX12_readsLess_47 ?_
  refine PX12_206 eX12_readsLess_48 rfl ?_
  refine k_aload_n eX12_readsLess_51 rfl ?_
  refine cVB (M' := MX12_readsSum) eX12_readsLess_52 mX12_241 wX12_readsSum vX12_readsSum ⟨_, _, _, rfl, rfl, rfl⟩ rfl (hS (S := si S 2638 (nI (p1 + 1))) hP2 (fun _ => by show lev (t p1) < 4; omega) (by rw [hoc]; exact hf)) (by omega) (Nat.le_of_ble_eq_true rfl) ?_
  intro g U hQ
  refine k_istore_n (L2 := [_, _, _]) eX12_readsLess_55 (Nat.le_of_ble_eq_true rfl) rfl ?_
  refine k_aload_n eX12_readsLess_56 rfl ?_
  refine k_iload_n eX12_readsLess_57 rfl ?_
  refine k_bipush (v := nI 60) eX12_readsLess_58 (by decide) ?_
  refine k_icmp_ne 68 eX12_readsLess_60 (by decide) (fun c_60 => ?_) (fun c_60 => ?_)
  · refine k_iload_n eX12_readsLess_68 rfl ?_
    refine k_bipush (v := nI 61) eX12_readsLess_69 (by decide) ?_
    refine k_icmp_ne 79 eX12_readsLess_71 (by decide) (fun c_71 => ?_) (fun c_71 => ?_)
    · refine k_bipush (v := nI 20) eX12_readsLess_79 (by decide) ?_
      have hbv : t p1 = nI 62 := by
        rw [← hb]
        first
        | exact c_33
        | exact absurd c_15 c_60
        | exact absurd c_24 c_71
      obtain ⟨q9, hq9, hq9b⟩ := hQ.q hn hP2.2.2.2.2.2
      have h39 : U.1 2640 = nI 3 := (hQ.1.1 2640 (by decide) (by decide) (by decide)).trans q6.2.2.1
      refine cV0 (M' := MX12_emits) eX12_readsLess_81 mX12_219 wX12_emits vX12_emits ⟨_, _, _, rfl, rfl, rfl⟩ rfl (pX12_emits (S := U) (q := q9) h39 hq9 (by omega) (nI 20)) (by omega) (Nat.le_of_ble_eq_true rfl) ?_
      refine k_iload_n eX12_readsLess_84 rfl ?_
      refine k_ireturn eX12_readsLess_85 rfl (k_nb _) ?_
      rcases hQ with ⟨hFU, ⟨hg, p2, c2, U2, d2, m2, r1, r2, r3, r4, r5, r6, r7, r8⟩ | ⟨hg, p2, qf, r1, r2, r3, r4, r5, r6⟩⟩
      · subst hg
        obtain rfl : m2.length = q9 := nI_inj' (r6.2.2.2.1.symm.trans hq9) (by omega) (by omega)
        rw [hoc] at r6
        have hF9 : FrP S0 (emS U m2.length (nI 20)) := (((hF.si (Or.inl rfl) _).tr hFU)).em _ _
        have hU9 : ∀ z ∈ U2 ++ [t p1], 3 ≤ lev z := by
          intro z hz
          rcases List.mem_append.mp hz with hz | hz
          · have := r4 z hz; omega
          · rw [List.mem_singleton.mp hz]; omega
        have h3a : crn t p2 = some (c2, (U2 ++ [t p1]) ++ W, d2, false, as) := by rw [List.append_assoc]; exact r3
        have h5a : rlL (emA (U2 ++ [t p1]) c2) (nI 20 :: m2) := by rw [emA_app]; exact ⟨Or.inr (Or.inr (Or.inr (Or.inr (Or.inr (Or.inr ⟨20, by rw [Int32.neg_neg, hbv]; exact (by unfold bnR; decide), rfl⟩))))), r5⟩
        have h7a : (nI 20 :: m2).length + p ≤ m.length + p2 := by simp only [List.length_cons]; omega
        have h8a : nxO 4 t n p2 c2 ((U2 ++ [t p1]) ++ W) d2 := by rw [List.append_assoc]; exact r8
        refine ⟨true, _, rfl, rfl, hF9, Or.inl ⟨rfl, p2, c2, U2 ++ [t p1], d2, nI 20 :: m2, by omega, r2, h3a, hU9, h5a, r6.em _, h7a, nxO_dn h8a (fun hp hl => ⟨hl, ?_⟩)⟩⟩
        rw [List.append_assoc]
        show lev (hdI (ew 4 c2 (U2 ++ (t p1 :: W))).2) = 3
        rw [ew_emA (show lev (hdI (t p1 :: W)) < 4 from by show lev (t p1) < 4; omega) U2 c2 r4]
        exact hlv
      · subst hg
        obtain rfl : qf = q9 := nI_inj' (r5.symm.trans hq9) (by omega) (by omega)
        exact ⟨false, _, rfl, rfl, ((hF.si (Or.inl rfl) _).tr hFU).em _ _, Or.inr ⟨rfl, p2, qf + 1, by omega, r2, r3, r4, rfl, by omega⟩⟩
    refine k_bipush (v := nI 15) eX12_readsLess_74 (by decide) ?_
    refine k_goto 81 eX12_readsLess_76 (by decide) ?_
    have hbv : t p1 = nI 61 := by
      rw [← hb]
      first
      | exact c_71
    obtain ⟨q9, hq9, hq9b⟩ := hQ.q hn hP2.2.2.2.2.2
    have h39 : U.1 2640 = nI 3 := (hQ.1.1 2640 (by decide) (by decide) (by decide)).trans q6.2.2.1
    refine cV0 (M' := MX12_emits) eX12_readsLess_81 mX12_219 wX12_emits vX12_emits ⟨_, _, _, rfl, rfl, rfl⟩ rfl (pX12_emits (S := U) (q := q9) h39 hq9 (by omega) (nI 15)) (by omega) (Nat.le_of_ble_eq_true rfl) ?_
    refine k_iload_n eX12_readsLess_84 rfl ?_
    refine k_ireturn eX12_readsLess_85 rfl (k_nb _) ?_
    rcases hQ with ⟨hFU, ⟨hg, p2, c2, U2, d2, m2, r1, r2, r3, r4, r5, r6, r7, r8⟩ | ⟨hg, p2, qf, r1, r2, r3, r4, r5, r6⟩⟩
    · subst hg
      obtain rfl : m2.length = q9 := nI_inj' (r6.2.2.2.1.symm.trans hq9) (by omega) (by omega)
      rw [hoc] at r6
      have hF9 : FrP S0 (emS U m2.length (nI 15)) := (((hF.si (Or.inl rfl) _).tr hFU)).em _ _
      have hU9 : ∀ z ∈ U2 ++ [t p1], 3 ≤ lev z := by
        intro z hz
        rcases List.mem_append.mp hz with hz | hz
        · have := r4 z hz; omega
        · rw [List.mem_singleton.mp hz]; omega
      have h3a : crn t p2 = some (c2, (U2 ++ [t p1]) ++ W, d2, false, as) := by rw [List.append_assoc]; exact r3
      have h5a : rlL (emA (U2 ++ [t p1]) c2) (nI 15 :: m2) := by rw [emA_app]; exact ⟨Or.inr (Or.inr (Or.inr (Or.inr (Or.inr (Or.inr ⟨15, by rw [Int32.neg_neg, hbv]; exact (by unfold bnR; decide), rfl⟩))))), r5⟩
      have h7a : (nI 15 :: m2).length + p ≤ m.length + p2 := by simp only [List.length_cons]; omega
      have h8a : nxO 4 t n p2 c2 ((U2 ++ [t p1]) ++ W) d2 := by rw [List.append_assoc]; exact r8
      refine ⟨true, _, rfl, rfl, hF9, Or.inl ⟨rfl, p2, c2, U2 ++ [t p1], d2, nI 15 :: m2, by omega, r2, h3a, hU9, h5a, r6.em _, h7a, nxO_dn h8a (fun hp hl => ⟨hl, ?_⟩)⟩⟩
      rw [List.append_assoc]
      show lev (hdI (ew 4 c2 (U2 ++ (t p1 :: W))).2) = 3
      rw [ew_emA (show lev (hdI (t p1 :: W)) < 4 from by show lev (t p1) < 4; omega) U2 c2 r4]
      exact hlv
    · subst hg
      obtain rfl : qf = q9 := nI_inj' (r5.symm.trans hq9) (by omega) (by omega)
      exact ⟨false, _, rfl, rfl, ((hF.si (Or.inl rfl) _).tr hFU).em _ _, Or.inr ⟨rfl, p2, qf + 1, by omega, r2, r3, r4, rfl, by omega⟩⟩
  refine k_bipush (v := nI 14) eX12_readsLess_63 (by decide) ?_
  refine k_goto 81 eX12_readsLess_65 (by decide) ?_
  have hbv : t p1 = nI 60 := by
    rw [← hb]
    first
    | exact c_60
  obtain ⟨q9, hq9, hq9b⟩ := hQ.q hn hP2.2.2.2.2.2
  have h39 : U.1 2640 = nI 3 := (hQ.1.1 2640 (by decide) (by decide) (by decide)).trans q6.2.2.1
  refine cV0 (M' := MX12_emits) eX12_readsLess_81 mX12_219 wX12_emits vX12_emits ⟨_, _, _, rfl, rfl, rfl⟩ rfl (pX12_emits (S := U) (q := q9) h39 hq9 (by omega) (nI 14)) (by omega) (Nat.le_of_ble_eq_true rfl) ?_
  refine k_iload_n eX12_readsLess_84 rfl ?_
  refine k_ireturn eX12_readsLess_85 rfl (k_nb _) ?_
  rcases hQ with ⟨hFU, ⟨hg, p2, c2, U2, d2, m2, r1, r2, r3, r4, r5, r6, r7, r8⟩ | ⟨hg, p2, qf, r1, r2, r3, r4, r5, r6⟩⟩
  · subst hg
    obtain rfl : m2.length = q9 := nI_inj' (r6.2.2.2.1.symm.trans hq9) (by omega) (by omega)
    rw [hoc] at r6
    have hF9 : FrP S0 (emS U m2.length (nI 14)) := (((hF.si (Or.inl rfl) _).tr hFU)).em _ _
    have hU9 : ∀ z ∈ U2 ++ [t p1], 3 ≤ lev z := by
      intro z hz
      rcases List.mem_append.mp hz with hz | hz
      · have := r4 z hz; omega
      · rw [List.mem_singleton.mp hz]; omega
    have h3a : crn t p2 = some (c2, (U2 ++ [t p1]) ++ W, d2, false, as) := by rw [List.append_assoc]; exact r3
    have h5a : rlL (emA (U2 ++ [t p1]) c2) (nI 14 :: m2) := by rw [emA_app]; exact ⟨Or.inr (Or.inr (Or.inr (Or.inr (Or.inr (Or.inr ⟨14, by rw [Int32.neg_neg, hbv]; exact (by unfold bnR; decide), rfl⟩))))), r5⟩
    have h7a : (nI 14 :: m2).length + p ≤ m.length + p2 := by simp only [List.length_cons]; omega
    have h8a : nxO 4 t n p2 c2 ((U2 ++ [t p1]) ++ W) d2 := by rw [List.append_assoc]; exact r8
    refine ⟨true, _, rfl, rfl, hF9, Or.inl ⟨rfl, p2, c2, U2 ++ [t p1], d2, nI 14 :: m2, by omega, r2, h3a, hU9, h5a, r6.em _, h7a, nxO_dn h8a (fun hp hl => ⟨hl, ?_⟩)⟩⟩
    rw [List.append_assoc]
    show lev (hdI (ew 4 c2 (U2 ++ (t p1 :: W))).2) = 3
    rw [ew_emA (show lev (hdI (t p1 :: W)) < 4 from by show lev (t p1) < 4; omega) U2 c2 r4]
    exact hlv
  · subst hg
    obtain rfl : qf = q9 := nI_inj' (r5.symm.trans hq9) (by omega) (by omega)
    exact ⟨false, _, rfl, rfl, ((hF.si (Or.inl rfl) _).tr hFU).em _ _, Or.inr ⟨rfl, p2, qf + 1, by omega, r2, r3, r4, rfl, by omega⟩⟩
theorem cLess {f D : Nat} (hS : RdC MX12_readsSum 4 D f) : RdC MX12_readsLess 3 (D + 1) f := by
  intro S t n p c W dg as m hP hk hf
  obtain ⟨hn, hpn, hc, hrl, hR, hml⟩ := hP
  refine Sp_of (by decide +kernel) (Nat.le_of_ble_eq_true rfl) ?_
  show AW none MX12_readsLess (D + 1) 0 0 0 [.ref 52, .null, .null] [] (hp S) _
  refine k_aload_n eX12_readsLess_0 rfl ?_
  refine cVB (M' := MX12_readsSum) eX12_readsLess_1 mX12_241 wX12_readsSum vX12_readsSum ⟨_, _, _, rfl, rfl, rfl⟩ rfl (hS (S := S) ⟨hn, hpn, hc, hrl, hR, hml⟩ (fun _ => by have := hk (by decide); omega) hf) (by omega) (Nat.le_of_ble_eq_true rfl) ?_
  intro g U hQ
  refine k_istore_n (L2 := [_, _, _]) eX12_readsLess_4 (Nat.le_of_ble_eq_true rfl) rfl ?_
  rcases hQ.2 with ⟨hg, p1, c1, U1, d1, m1, q1, q2, q3, hU, q5, q6, q7, q8⟩ | ⟨hg, hFa⟩
  · subst hg
    refine k_loc (L2 := [_, .int (nI 1), _]) (by rw [b2i_t (show true = true from rfl)] <;> rfl) ?_
    exact lX12_readsLess hS hn hml (hk (by decide)) hf (by omega) (by omega) p1 c1 U1 d1 m1 U q1 q2 q3 hU q5 q6 q7 q8 hQ.1
  · subst hg
    refine k_loc (L2 := [_, .int (nI 0), _]) (by rw [b2i_f (show ¬ false = true by decide)] <;> rfl) ?_
    exact xX12_readsLess hQ.1 hFa
theorem xX12_readsAnd {d0 : Nat} {S0 : k_S} {t : Nat → Int32} {n p : Nat} {W : List Int32} {as : Bool} {m : List Int32} {S : k_S} (hF : FrP S0 S) (hFa : PsF t n p m S) : AW none MX12_readsAnd d0 0 0 5 [.ref 52, .int (nI 0)] [] (hp S) (RdQ S0 2 t n p W as m) := by
  refine k_iload_n eX12_readsAnd_5 rfl ?_
  refine k_if_eqN 42 eX12_readsAnd_6 (by decide) (by omega) (fun c_6 => ?_) (fun c_6 => by exfalso; omega)
  refine k_iload_n eX12_readsAnd_42 rfl ?_
  refine k_ireturn eX12_readsAnd_43 rfl rfl ?_
  exact ⟨false, S, rt_f (by decide), rfl, hF, Or.inr ⟨rfl, hFa⟩⟩
set_option maxHeartbeats 1000000 in
theorem lX12_readsAnd {d0 : Nat} {f D : Nat} (hS : RdC MX12_readsLess 3 D f) {S0 : k_S} {t : Nat → Int32} {n p : Nat} {W : List Int32} {as : Bool} {m : List Int32} (hn : n ≤ 120) (hml : m.length ≤ p) (hW : lev (hdI W) < 2) (hf : oc W + f = 6) (hD : D < d0) (hd2 : 1 ≤ d0) : ∀ (r : Nat) (p1 : Nat) (c1 U1 : List Int32) (d1 : Nat) (m1 : List Int32) (S : k_S), n - p1 < r → p < p1 → p1 ≤ n → crn t p1 = some (c1, U1 ++ W, d1, false, as) → (∀ s ∈ U1, 2 ≤ lev s) → rlL (emA U1 c1) m1 → RfS S t n p1 (oc W) m1 → m1.length + p ≤ m.length + p1 → nxO 3 t n p1 c1 (U1 ++ W) d1 → FrP S0 S → AW none MX12_readsAnd d0 0 0 5 [.ref 52, .int (nI 1)] [] (hp S) (RdQ S0 2 t n p W as m) := by
  intro r
  induction r with
  | zero =>
    intro p1 c1 U1 d1 m1 S hr
    exact absurd hr (Nat.not_lt_zero _)
  | succ r ih =>
    intro p1 c1 U1 d1 m1 S hr q1 q2 q3 hU q5 q6 q7 q8 hF
    refine k_iload_n eX12_readsAnd_5 rfl ?_
    refine k_if_eqN 42 eX12_readsAnd_6 (by decide) (by omega) (fun c_6 => by exfalso; omega) (fun c_6 => ?_)
    refine k_aload_n eX12_readsAnd_9 rfl ?_
    refine cV1 (M' := MX12_here) eX12_readsAnd_10 mX12_215 wX12_here vX12_here ⟨_, _, _, rfl, rfl, rfl⟩ rfl (pX12_here (S := S) q6 hn (by omega)) (by omega) (Nat.le_of_ble_eq_true rfl) ?_
    refine k_bipush (v := nI 38) eX12_readsAnd_13 (by decide) ?_
    refine k_icmp_ne 42 eX12_readsAnd_15 (by decide) (fun c_15 => ?_) (fun c_15 => ?_)
    · refine k_iload_n eX12_readsAnd_42 rfl ?_
      refine k_ireturn eX12_readsAnd_43 rfl rfl ?_
      refine ⟨true, S, rt_t rfl, rfl, hF, Or.inl ⟨rfl, p1, c1, U1, d1, m1, q1, q2, q3, (fun z hz => by have := hU z hz; omega), q5, q6, q7, nxO_dn q8 (fun hp hl => absurd (lev_2 hl) (fun z => c_15 (by rw [hr_p hp]; exact z)))⟩⟩
    obtain ⟨hpn1, hlv⟩ : p1 < n ∧ lev (t p1) = 2 := by
      first
      | (obtain ⟨a1, a2⟩ := hr_in c_15 (by decide); exact ⟨a1, by rw [a2]; decide⟩)
    have hb : hrV t n p1 = t p1 := hr_p hpn1
    have hcn := crn_s q3 (op_st hU hW hlv (by decide) (by decide) (by decide))
    have hoc : oc (t p1 :: W) = oc W := oc_same W (fun z => by
      rcases z with z | z
      · omega
      · rw [z] at hlv; exact absurd hlv (by decide))
    have hP2 : RdP (si S 2638 (nI (p1 + 1))) t n (p1 + 1) (emA U1 c1) (t p1 :: W) 0 as m1 := ⟨hn, by omega, hcn, q5, by rw [hoc]; exact q6.pl (p1 + 1), by omega⟩
    refine k_aload_n eX12_readsAnd_18 rfl ?_
    refine k_dup eX12_readsAnd_19 rfl ?_
    refine GX12_206 eX12_readsAnd_20 rfl ?_
    refine k_topi (nI p1) q6.1 ?_
    refine k_iconst (v := nI 1) eX12_readsAnd_23 (by decide) ?_
    refine k_iaddN eX12_readsAnd_24 ?_
    refine PX12_206 eX12_readsAnd_25 rfl ?_
    refine k_aload_n eX12_readsAnd_28 rfl ?_
    refine cVB (M' := MX12_readsLess) eX12_readsAnd_29 mX12_244 wX12_readsLess vX12_readsLess ⟨_, _, _, rfl, rfl, rfl⟩ rfl (hS (S := si S 2638 (nI (p1 + 1))) hP2 (fun _ => by show lev (t p1) < 3; omega) (by rw [hoc]; exact hf)) (by omega) (Nat.le_of_ble_eq_true rfl) ?_
    intro g U hQ
    refine k_istore_n (L2 := [_, _]) eX12_readsAnd_32 (Nat.le_of_ble_eq_true rfl) rfl ?_
    refine k_aload_n eX12_readsAnd_33 rfl ?_
    refine k_bipush (v := nI 12) eX12_readsAnd_34 (by decide) ?_
    have hbv : t p1 = nI 38 := by
      rw [← hb]
      first
      | exact c_15
    obtain ⟨q9, hq9, hq9b⟩ := hQ.q hn hP2.2.2.2.2.2
    have h39 : U.1 2640 = nI 3 := (hQ.1.1 2640 (by decide) (by decide) (by decide)).trans q6.2.2.1
    refine cV0 (M' := MX12_emits) eX12_readsAnd_36 mX12_219 wX12_emits vX12_emits ⟨_, _, _, rfl, rfl, rfl⟩ rfl (pX12_emits (S := U) (q := q9) h39 hq9 (by omega) (nI 12)) (by omega) (Nat.le_of_ble_eq_true rfl) ?_
    refine k_goto 5 eX12_readsAnd_39 (by decide) ?_
    rcases hQ with ⟨hFU, ⟨hg, p2, c2, U2, d2, m2, r1, r2, r3, r4, r5, r6, r7, r8⟩ | ⟨hg, p2, qf, r1, r2, r3, r4, r5, r6⟩⟩
    · subst hg
      obtain rfl : m2.length = q9 := nI_inj' (r6.2.2.2.1.symm.trans hq9) (by omega) (by omega)
      rw [hoc] at r6
      have hF9 : FrP S0 (emS U m2.length (nI 12)) := (((hF.si (Or.inl rfl) _).tr hFU)).em _ _
      have hU9 : ∀ z ∈ U2 ++ [t p1], 2 ≤ lev z := by
        intro z hz
        rcases List.mem_append.mp hz with hz | hz
        · have := r4 z hz; omega
        · rw [List.mem_singleton.mp hz]; omega
      have h3a : crn t p2 = some (c2, (U2 ++ [t p1]) ++ W, d2, false, as) := by rw [List.append_assoc]; exact r3
      have h5a : rlL (emA (U2 ++ [t p1]) c2) (nI 12 :: m2) := by rw [emA_app]; exact ⟨Or.inr (Or.inr (Or.inr (Or.inr (Or.inr (Or.inr ⟨12, by rw [Int32.neg_neg, hbv]; exact (by unfold bnR; decide), rfl⟩))))), r5⟩
      have h7a : (nI 12 :: m2).length + p ≤ m.length + p2 := by simp only [List.length_cons]; omega
      have h8a : nxO 3 t n p2 c2 ((U2 ++ [t p1]) ++ W) d2 := by rw [List.append_assoc]; exact r8
      refine k_loc (L2 := [_, .int (nI 1)]) (by rw [b2i_t (show true = true from rfl)] <;> rfl) ?_
      exact ih p2 c2 (U2 ++ [t p1]) d2 _ _ (by omega) (by omega) r2 h3a hU9 h5a (r6.em _) h7a h8a hF9
    · subst hg
      obtain rfl : qf = q9 := nI_inj' (r5.symm.trans hq9) (by omega) (by omega)
      refine k_loc (L2 := [_, .int (nI 0)]) (by rw [b2i_f (show ¬ false = true by decide)] <;> rfl) ?_
      exact xX12_readsAnd (((hF.si (Or.inl rfl) _).tr hFU).em _ _) ⟨p2, qf + 1, by omega, r2, r3, r4, rfl, by omega⟩
theorem cAnd {f D : Nat} (hS : RdC MX12_readsLess 3 D f) : RdC MX12_readsAnd 2 (D + 1) f := by
  intro S t n p c W dg as m hP hk hf
  obtain ⟨hn, hpn, hc, hrl, hR, hml⟩ := hP
  refine Sp_of (by decide +kernel) (Nat.le_of_ble_eq_true rfl) ?_
  show AW none MX12_readsAnd (D + 1) 0 0 0 [.ref 52, .null] [] (hp S) _
  refine k_aload_n eX12_readsAnd_0 rfl ?_
  refine cVB (M' := MX12_readsLess) eX12_readsAnd_1 mX12_244 wX12_readsLess vX12_readsLess ⟨_, _, _, rfl, rfl, rfl⟩ rfl (hS (S := S) ⟨hn, hpn, hc, hrl, hR, hml⟩ (fun _ => by have := hk (by decide); omega) hf) (by omega) (Nat.le_of_ble_eq_true rfl) ?_
  intro g U hQ
  refine k_istore_n (L2 := [_, _]) eX12_readsAnd_4 (Nat.le_of_ble_eq_true rfl) rfl ?_
  rcases hQ.2 with ⟨hg, p1, c1, U1, d1, m1, q1, q2, q3, hU, q5, q6, q7, q8⟩ | ⟨hg, hFa⟩
  · subst hg
    refine k_loc (L2 := [_, .int (nI 1)]) (by rw [b2i_t (show true = true from rfl)] <;> rfl) ?_
    exact lX12_readsAnd hS hn hml (hk (by decide)) hf (by omega) (by omega) (n - p1 + 1) p1 c1 U1 d1 m1 U (by omega) q1 q2 q3 (fun z hz => by have := hU z hz; omega) q5 q6 q7 q8 hQ.1
  · subst hg
    refine k_loc (L2 := [_, .int (nI 0)]) (by rw [b2i_f (show ¬ false = true by decide)] <;> rfl) ?_
    exact xX12_readsAnd hQ.1 hFa
theorem xX12_readsAll {d0 : Nat} {S0 : k_S} {t : Nat → Int32} {n p : Nat} {W : List Int32} {as : Bool} {m : List Int32} {S : k_S} (hF : FrP S0 S) (hFa : PsF t n p m S) : AW none MX12_readsAll d0 0 0 5 [.ref 52, .int (nI 0)] [] (hp S) (RdQ S0 1 t n p W as m) := by
  refine k_iload_n eX12_readsAll_5 rfl ?_
  refine k_if_eqN 42 eX12_readsAll_6 (by decide) (by omega) (fun c_6 => ?_) (fun c_6 => by exfalso; omega)
  refine k_iload_n eX12_readsAll_42 rfl ?_
  refine k_ireturn eX12_readsAll_43 rfl rfl ?_
  exact ⟨false, S, rt_f (by decide), rfl, hF, Or.inr ⟨rfl, hFa⟩⟩
set_option maxHeartbeats 1000000 in
theorem lX12_readsAll {d0 : Nat} {f D : Nat} (hS : RdC MX12_readsAnd 2 D f) {S0 : k_S} {t : Nat → Int32} {n p : Nat} {W : List Int32} {as : Bool} {m : List Int32} (hn : n ≤ 120) (hml : m.length ≤ p) (hW : lev (hdI W) < 1) (hf : oc W + f = 6) (hD : D < d0) (hd2 : 1 ≤ d0) : ∀ (r : Nat) (p1 : Nat) (c1 U1 : List Int32) (d1 : Nat) (m1 : List Int32) (S : k_S), n - p1 < r → p < p1 → p1 ≤ n → crn t p1 = some (c1, U1 ++ W, d1, false, as) → (∀ s ∈ U1, 1 ≤ lev s) → rlL (emA U1 c1) m1 → RfS S t n p1 (oc W) m1 → m1.length + p ≤ m.length + p1 → nxO 2 t n p1 c1 (U1 ++ W) d1 → FrP S0 S → AW none MX12_readsAll d0 0 0 5 [.ref 52, .int (nI 1)] [] (hp S) (RdQ S0 1 t n p W as m) := by
  intro r
  induction r with
  | zero =>
    intro p1 c1 U1 d1 m1 S hr
    exact absurd hr (Nat.not_lt_zero _)
  | succ r ih =>
    intro p1 c1 U1 d1 m1 S hr q1 q2 q3 hU q5 q6 q7 q8 hF
    refine k_iload_n eX12_readsAll_5 rfl ?_
    refine k_if_eqN 42 eX12_readsAll_6 (by decide) (by omega) (fun c_6 => by exfalso; omega) (fun c_6 => ?_)
    refine k_aload_n eX12_readsAll_9 rfl ?_
    refine cV1 (M' := MX12_here) eX12_readsAll_10 mX12_215 wX12_here vX12_here ⟨_, _, _, rfl, rfl, rfl⟩ rfl (pX12_here (S := S) q6 hn (by omega)) (by omega) (Nat.le_of_ble_eq_true rfl) ?_
    refine k_bipush (v := nI 124) eX12_readsAll_13 (by decide) ?_
    refine k_icmp_ne 42 eX12_readsAll_15 (by decide) (fun c_15 => ?_) (fun c_15 => ?_)
    · refine k_iload_n eX12_readsAll_42 rfl ?_
      refine k_ireturn eX12_readsAll_43 rfl rfl ?_
      refine ⟨true, S, rt_t rfl, rfl, hF, Or.inl ⟨rfl, p1, c1, U1, d1, m1, q1, q2, q3, (fun z hz => by have := hU z hz; omega), q5, q6, q7, nxO_dn q8 (fun hp hl => absurd (lev_1 hl) (fun z => c_15 (by rw [hr_p hp]; exact z)))⟩⟩
    obtain ⟨hpn1, hlv⟩ : p1 < n ∧ lev (t p1) = 1 := by
      first
      | (obtain ⟨a1, a2⟩ := hr_in c_15 (by decide); exact ⟨a1, by rw [a2]; decide⟩)
    have hb : hrV t n p1 = t p1 := hr_p hpn1
    have hcn := crn_s q3 (op_st hU hW hlv (by decide) (by decide) (by decide))
    have hoc : oc (t p1 :: W) = oc W := oc_same W (fun z => by
      rcases z with z | z
      · omega
      · rw [z] at hlv; exact absurd hlv (by decide))
    have hP2 : RdP (si S 2638 (nI (p1 + 1))) t n (p1 + 1) (emA U1 c1) (t p1 :: W) 0 as m1 := ⟨hn, by omega, hcn, q5, by rw [hoc]; exact q6.pl (p1 + 1), by omega⟩
    refine k_aload_n eX12_readsAll_18 rfl ?_
    refine k_dup eX12_readsAll_19 rfl ?_
    refine GX12_206 eX12_readsAll_20 rfl ?_
    refine k_topi (nI p1) q6.1 ?_
    refine k_iconst (v := nI 1) eX12_readsAll_23 (by decide) ?_
    refine k_iaddN eX12_readsAll_24 ?_
    refine PX12_206 eX12_readsAll_25 rfl ?_
    refine k_aload_n eX12_readsAll_28 rfl ?_
    refine cVB (M' := MX12_readsAnd) eX12_readsAll_29 mX12_247 wX12_readsAnd vX12_readsAnd ⟨_, _, _, rfl, rfl, rfl⟩ rfl (hS (S := si S 2638 (nI (p1 + 1))) hP2 (fun _ => by show lev (t p1) < 2; omega) (by rw [hoc]; exact hf)) (by omega) (Nat.le_of_ble_eq_true rfl) ?_
    intro g U hQ
    refine k_istore_n (L2 := [_, _]) eX12_readsAll_32 (Nat.le_of_ble_eq_true rfl) rfl ?_
    refine k_aload_n eX12_readsAll_33 rfl ?_
    refine k_bipush (v := nI 11) eX12_readsAll_34 (by decide) ?_
    have hbv : t p1 = nI 124 := by
      rw [← hb]
      first
      | exact c_15
    obtain ⟨q9, hq9, hq9b⟩ := hQ.q hn hP2.2.2.2.2.2
    have h39 : U.1 2640 = nI 3 := (hQ.1.1 2640 (by decide) (by decide) (by decide)).trans q6.2.2.1
    refine cV0 (M' := MX12_emits) eX12_readsAll_36 mX12_219 wX12_emits vX12_emits ⟨_, _, _, rfl, rfl, rfl⟩ rfl (pX12_emits (S := U) (q := q9) h39 hq9 (by omega) (nI 11)) (by omega) (Nat.le_of_ble_eq_true rfl) ?_
    refine k_goto 5 eX12_readsAll_39 (by decide) ?_
    rcases hQ with ⟨hFU, ⟨hg, p2, c2, U2, d2, m2, r1, r2, r3, r4, r5, r6, r7, r8⟩ | ⟨hg, p2, qf, r1, r2, r3, r4, r5, r6⟩⟩
    · subst hg
      obtain rfl : m2.length = q9 := nI_inj' (r6.2.2.2.1.symm.trans hq9) (by omega) (by omega)
      rw [hoc] at r6
      have hF9 : FrP S0 (emS U m2.length (nI 11)) := (((hF.si (Or.inl rfl) _).tr hFU)).em _ _
      have hU9 : ∀ z ∈ U2 ++ [t p1], 1 ≤ lev z := by
        intro z hz
        rcases List.mem_append.mp hz with hz | hz
        · have := r4 z hz; omega
        · rw [List.mem_singleton.mp hz]; omega
      have h3a : crn t p2 = some (c2, (U2 ++ [t p1]) ++ W, d2, false, as) := by rw [List.append_assoc]; exact r3
      have h5a : rlL (emA (U2 ++ [t p1]) c2) (nI 11 :: m2) := by rw [emA_app]; exact ⟨Or.inr (Or.inr (Or.inr (Or.inr (Or.inr (Or.inr ⟨11, by rw [Int32.neg_neg, hbv]; exact (by unfold bnR; decide), rfl⟩))))), r5⟩
      have h7a : (nI 11 :: m2).length + p ≤ m.length + p2 := by simp only [List.length_cons]; omega
      have h8a : nxO 2 t n p2 c2 ((U2 ++ [t p1]) ++ W) d2 := by rw [List.append_assoc]; exact r8
      refine k_loc (L2 := [_, .int (nI 1)]) (by rw [b2i_t (show true = true from rfl)] <;> rfl) ?_
      exact ih p2 c2 (U2 ++ [t p1]) d2 _ _ (by omega) (by omega) r2 h3a hU9 h5a (r6.em _) h7a h8a hF9
    · subst hg
      obtain rfl : qf = q9 := nI_inj' (r5.symm.trans hq9) (by omega) (by omega)
      refine k_loc (L2 := [_, .int (nI 0)]) (by rw [b2i_f (show ¬ false = true by decide)] <;> rfl) ?_
      exact xX12_readsAll (((hF.si (Or.inl rfl) _).tr hFU).em _ _) ⟨p2, qf + 1, by omega, r2, r3, r4, rfl, by omega⟩
theorem cAll {f D : Nat} (hS : RdC MX12_readsAnd 2 D f) : RdC MX12_readsAll 1 (D + 1) f := by
  intro S t n p c W dg as m hP hk hf
  obtain ⟨hn, hpn, hc, hrl, hR, hml⟩ := hP
  refine Sp_of (by decide +kernel) (Nat.le_of_ble_eq_true rfl) ?_
  show AW none MX12_readsAll (D + 1) 0 0 0 [.ref 52, .null] [] (hp S) _
  refine k_aload_n eX12_readsAll_0 rfl ?_
  refine cVB (M' := MX12_readsAnd) eX12_readsAll_1 mX12_247 wX12_readsAnd vX12_readsAnd ⟨_, _, _, rfl, rfl, rfl⟩ rfl (hS (S := S) ⟨hn, hpn, hc, hrl, hR, hml⟩ (fun _ => by have := hk (by decide); omega) hf) (by omega) (Nat.le_of_ble_eq_true rfl) ?_
  intro g U hQ
  refine k_istore_n (L2 := [_, _]) eX12_readsAll_4 (Nat.le_of_ble_eq_true rfl) rfl ?_
  rcases hQ.2 with ⟨hg, p1, c1, U1, d1, m1, q1, q2, q3, hU, q5, q6, q7, q8⟩ | ⟨hg, hFa⟩
  · subst hg
    refine k_loc (L2 := [_, .int (nI 1)]) (by rw [b2i_t (show true = true from rfl)] <;> rfl) ?_
    exact lX12_readsAll hS hn hml (hk (by decide)) hf (by omega) (by omega) (n - p1 + 1) p1 c1 U1 d1 m1 U (by omega) q1 q2 q3 (fun z hz => by have := hU z hz; omega) q5 q6 q7 q8 hQ.1
  · subst hg
    refine k_loc (L2 := [_, .int (nI 0)]) (by rw [b2i_f (show ¬ false = true by decide)] <;> rfl) ?_
    exact xX12_readsAll hQ.1 hFa
