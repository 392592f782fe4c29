theorem rdAll : ∀ f, RdC MX12_readsAll 1 (6 * f + 9) f ∧ RdC MX12_readsOne 6 (6 * f + 4) f
  | 0 => by
    have h1 : RdC MX12_readsOne 6 4 0 := cOne (D := 3) (DA := 0) (DO := 0) (by decide) (by decide) (by decide) (fun g hg => absurd hg (by omega))
    exact ⟨cAll (cAnd (cLess (cSum (cTimes h1)))), h1⟩
  | f + 1 => by
    have ih := rdAll f
    have h1 : RdC MX12_readsOne 6 (6 * (f + 1) + 4) (f + 1) := cOne (D := 6 * f + 9) (by omega) (Nat.le_refl _) (show 6 * f + 4 ≤ 6 * f + 9 by omega) (fun g hg => by rw [show g = f by omega]; exact ih)
    exact ⟨cAll (cAnd (cLess (cSum (cTimes h1)))), h1⟩
/-- a line behind which all is well -/
def LnT (t : Nat → Int32) (n p : Nat) (S : k_S) : Prop := ∃ p' c' U dg' as' m', p < p' ∧ p' ≤ n ∧ crn t p' = some (c', U, dg', false, as') ∧ (∀ s ∈ U, 1 ≤ lev s) ∧ rlL ((-59) :: emA U c') m' ∧ RfS S t n p' 0 m' ∧ m'.length ≤ p' + 1 ∧ nxO 1 t n p' c' U dg' ∧ (as' = false → p' < n → ¬ t p' = nI 63)
def LnF (t : Nat → Int32) (n : Nat) (S : k_S) : Prop := ∃ p' q, p' ≤ n ∧ Flt t n p' ∧ S.1 2638 = nI p' ∧ S.1 2641 = nI q
def LnR (S0 : k_S) (t : Nat → Int32) (n p : Nat) (g : Bool) (S : k_S) : Prop := FrP S0 S ∧ ((g = true ∧ LnT t n p S) ∨ (g = false ∧ LnF t n S))
theorem as_st {c U W : List Int32} {dg : Nat} (hU : ∀ s ∈ U, 1 ≤ lev s) : cst (c, U ++ [], dg, false, false) (nI 63) = some ((-63) :: emA U c, [], 0, true, true) := by
  rw [cst_g]
  unfold goP
  rw [if_neg (by decide), if_neg (by decide), if_neg (by decide), if_pos rfl, ew_emA (show lev (hdI []) < 1 by decide) U c hU, if_pos ⟨rfl, rfl⟩]
theorem en_st {c U : List Int32} {dg : Nat} {as : Bool} (hU : ∀ s ∈ U, 1 ≤ lev s) : cst (c, U ++ [], dg, false, as) (nI 59) = some ((-59) :: emA U c, [], 0, true, false) := by
  rw [cst_g]
  unfold goP
  rw [if_neg (by decide), if_neg (by decide), if_pos rfl, ew_emA (show lev (hdI []) < 1 by decide) U c hU, if_pos rfl]
set_option maxHeartbeats 1000000 in
theorem pX12_readsLine {S : k_S} {t : Nat → Int32} {n p : Nat} {c : List Int32} {dg : Nat} {m : List Int32} (hP : RdP S t n p c [] dg false m) : Sp 46 0 0 MX12_readsLine [.ref 52] (hp S) (fun r h' => ∃ g S', r = some (.int (b2i (g = true))) ∧ h' = hp S' ∧ LnR S t n p g S') := by
  obtain ⟨hn, hpn, hc, hrl, hR, hml⟩ := hP
  refine Sp_of (by decide +kernel) (Nat.le_of_ble_eq_true rfl) ?_
  show AW none MX12_readsLine 46 0 0 0 [.ref 52, .null] [] (hp S) _
  refine k_aload_n eX12_readsLine_0 rfl ?_
  refine cVB (M' := MX12_readsAll) eX12_readsLine_1 mX12_232 wX12_readsAll vX12_readsAll ⟨_, _, _, rfl, rfl, rfl⟩ rfl ((rdAll 6).1 (S := S) ⟨hn, hpn, hc, hrl, hR, hml⟩ (fun _ => by decide) rfl) (by decide) (Nat.le_of_ble_eq_true rfl) ?_
  intro g U hQ
  refine k_ifb_ne 9 eX12_readsLine_4 (by decide) (fun c_4 => ?_) (fun c_4 => ?_)
  · have hT : PsT 1 1 t n p [] false m U := by
      rcases hQ.2 with h | h
      · exact h.2
      · exact absurd c_4 (by rw [h.1]; decide)
    obtain ⟨p1, c1, U1, d1, m1, q1, q2, q3, hU, q5, q6, q7, q8⟩ := hT
    have hm120 : m1.length ≤ 120 := by omega
    refine k_aload_n eX12_readsLine_9 rfl ?_
    refine cV1 (M' := MX12_here) eX12_readsLine_10 mX12_215 wX12_here vX12_here ⟨_, _, _, rfl, rfl, rfl⟩ rfl (pX12_here (S := U) q6 hn (by omega)) (by decide) (Nat.le_of_ble_eq_true rfl) ?_
    refine k_bipush (v := nI 63) eX12_readsLine_13 (by decide) ?_
    refine k_icmp_eq 26 eX12_readsLine_15 (by decide) (fun c_15 => ?_) (fun c_15 => ?_)
    · obtain ⟨hpn1, hb⟩ := hr_in c_15 (by decide)
      have hcn := crn_s q3 (by rw [hb]; exact as_st (W := []) hU)
      have hx41 : cRl (-63) (nI 41) := Or.inr (Or.inr (Or.inr (Or.inr (Or.inl ⟨rfl, rfl⟩))))
      have hP2 : RdP (emS (si U 2638 (nI (p1 + 1))) m1.length (nI 41)) t n (p1 + 1) ((-63) :: emA U1 c1) [] 0 true (nI 41 :: m1) := ⟨hn, by omega, hcn, ⟨hx41, q5⟩, (q6.pl (p1 + 1)).em _, by simp only [List.length_cons]; omega⟩
      refine k_aload_n eX12_readsLine_26 rfl ?_
      refine k_dup eX12_readsLine_27 rfl ?_
      refine GX12_206 eX12_readsLine_28 rfl ?_
      refine k_topi (nI p1) q6.1 ?_
      refine k_iconst (v := nI 1) eX12_readsLine_31 (by decide) ?_
      refine k_iaddN eX12_readsLine_32 ?_
      refine PX12_206 eX12_readsLine_33 rfl ?_
      refine k_aload_n eX12_readsLine_36 rfl ?_
      refine k_bipush (v := nI 41) eX12_readsLine_37 (by decide) ?_
      refine cV0 (M' := MX12_emits) eX12_readsLine_39 mX12_219 wX12_emits vX12_emits ⟨_, _, _, rfl, rfl, rfl⟩ rfl (pX12_emits (S := (si U 2638 (nI (p1 + 1)))) (q := m1.length) (q6.pl (p1 + 1)).2.2.1 (q6.pl (p1 + 1)).2.2.2.1 (by omega) (nI 41)) (by decide) (Nat.le_of_ble_eq_true rfl) ?_
      refine k_aload_n eX12_readsLine_42 rfl ?_
      refine cVB (M' := MX12_readsAll) eX12_readsLine_43 mX12_232 wX12_readsAll vX12_readsAll ⟨_, _, _, rfl, rfl, rfl⟩ rfl ((rdAll 6).1 (S := (emS (si U 2638 (nI (p1 + 1))) m1.length (nI 41))) hP2 (fun _ => by decide) rfl) (by decide) (Nat.le_of_ble_eq_true rfl) ?_
      intro g2 Y hQ2
      refine k_istore_n (L2 := [_, _]) eX12_readsLine_46 (Nat.le_of_ble_eq_true rfl) rfl ?_
      obtain ⟨q9, hq9, hq9b⟩ := hQ2.q hn hP2.2.2.2.2.2
      have h39 : Y.1 2640 = nI 3 := (hQ2.1.1 2640 (by decide) (by decide) (by decide)).trans ((hQ.1.1 2640 (by decide) (by decide) (by decide)).trans hR.2.2.1)
      refine k_aload_n eX12_readsLine_47 rfl ?_
      refine k_bipush (v := nI 42) eX12_readsLine_48 (by decide) ?_
      refine cV0 (M' := MX12_emits) eX12_readsLine_50 mX12_219 wX12_emits vX12_emits ⟨_, _, _, rfl, rfl, rfl⟩ rfl (pX12_emits (S := Y) (q := q9) h39 hq9 (by omega) (nI 42)) (by decide) (Nat.le_of_ble_eq_true rfl) ?_
      refine k_iload_n eX12_readsLine_53 rfl ?_
      refine k_ireturn eX12_readsLine_54 rfl (k_nb _) ?_
      have hF9 : FrP S (emS Y q9 (nI 42)) := ((((hQ.1.si (Or.inl rfl) _).em _ _).tr hQ2.1)).em _ _
      rcases hQ2 with ⟨hFU, ⟨hg, p2, c2, U2, d2, m2, r1, r2, r3, r4, r5, r6, r7, r8⟩ | ⟨hg, p2, qf, r1, r2, r3, r4, r5, r6⟩⟩
      · subst hg
        simp only [List.length_cons] at r7
        obtain rfl : m2.length = q9 := nI_inj' (r6.2.2.2.1.symm.trans hq9) (by omega) (by omega)
        have hx42 : cRl (-59) (nI 42) := Or.inr (Or.inr (Or.inr (Or.inr (Or.inr (Or.inl ⟨rfl, 42, Or.inr rfl, rfl⟩)))))
        rw [List.append_nil] at r3 r8
        exact ⟨true, _, rfl, rfl, hF9, Or.inl ⟨rfl, p2, c2, U2, d2, true, nI 42 :: m2, by omega, r2, r3, r4, ⟨hx42, r5⟩, r6.em _, by simp only [List.length_cons]; omega, r8, fun z => by cases z⟩⟩
      · subst hg
        exact ⟨false, _, rfl, rfl, hF9, Or.inr ⟨rfl, p2, q9 + 1, r2, r3, r4, rfl⟩⟩
    refine k_aload_n eX12_readsLine_18 rfl ?_
    refine k_bipush (v := nI 40) eX12_readsLine_19 (by decide) ?_
    refine cV0 (M' := MX12_emits) eX12_readsLine_21 mX12_219 wX12_emits vX12_emits ⟨_, _, _, rfl, rfl, rfl⟩ rfl (pX12_emits (S := U) (q := m1.length) q6.2.2.1 q6.2.2.2.1 (by omega) (nI 40)) (by decide) (Nat.le_of_ble_eq_true rfl) ?_
    refine k_iconst (v := nI 1) eX12_readsLine_24 (by decide) ?_
    refine k_ireturn eX12_readsLine_25 rfl rfl ?_
    have hx40 : cRl (-59) (nI 40) := Or.inr (Or.inr (Or.inr (Or.inr (Or.inr (Or.inl ⟨rfl, 40, Or.inl rfl, rfl⟩)))))
    rw [List.append_nil] at q3 q8
    exact ⟨true, _, rt_t rfl, rfl, hQ.1.em _ _, Or.inl ⟨rfl, p1, c1, U1, d1, false, nI 40 :: m1, q1, q2, q3, hU, ⟨hx40, q5⟩, q6.em _, by simp only [List.length_cons]; omega, q8, fun _ hp z => c_15 (by rw [hr_p hp]; exact z)⟩⟩
  refine k_iconst (v := nI 0) eX12_readsLine_7 (by decide) ?_
  refine k_ireturn eX12_readsLine_8 rfl rfl ?_
  rcases hQ.2 with ⟨hg, _⟩ | ⟨hg, p2, qf, r1, r2, r3, r4, r5, r6⟩
  · exact absurd hg c_4
  · exact ⟨false, U, rt_f (by decide), rfl, hQ.1, Or.inr ⟨rfl, p2, qf, r2, r3, r4, r5⟩⟩
def FrT (S T : k_S) : Prop := (∀ k, k ≠ 2638 → k ≠ 2639 → k ≠ 2640 → k ≠ 2641 → k ≠ 2615 → T.1 k = S.1 k) ∧ (∀ a, a ≠ 65 → a ≠ 66 → T.2.1 a = S.2.1 a) ∧ T.2.2 = S.2.2 ∧ (∀ i, i < 600 → T.2.1 65 i = S.2.1 65 i) ∧ ∀ i, i ≠ 3 → T.2.1 66 i = S.2.1 66 i
def RdsQ (S0 : k_S) (t : Nat → Int32) (n : Nat) (v : Int32) (S : k_S) : Prop := FrT S0 S ∧ S.1 2615 = nI 0 ∧ ((∃ p, p ≤ n ∧ Flt t n p ∧ v = nI p) ∨ (v = -1 ∧ ∃ c U dg as m, crn t n = some (c, U, dg, false, as) ∧ (∀ s ∈ U, 1 ≤ lev s) ∧ rlL ((-59) :: emA U c) m ∧ stk (fun i => S.2.1 65 (600 + i)) m ∧ S.2.1 66 3 = nI m.length ∧ m.length ≤ 121))
def S66 (S : k_S) (q : Nat) : k_S := si (sa S 66 (va_up (S.2.1 66) 3 (nI q))) 2615 (nI 0)
theorem FrT.of {S0 S1 S : k_S} (h1 : S1.2 = S0.2) (h2 : ∀ k, k ≠ 2638 → k ≠ 2639 → k ≠ 2640 → k ≠ 2641 → S1.1 k = S0.1 k) (h : FrP S1 S) (q : Nat) : FrT S0 (S66 S q) := by
  refine ⟨fun k a b c d e => ?_, fun a a1 a2 => ?_, ?_, fun i hi => ?_, fun i hi => ?_⟩
  · exact ((if_neg e).trans (h.1 k a b d)).trans (h2 k a b c d)
  · exact ((if_neg a2).trans (h.2.1 a a1)).trans (by rw [h1])
  · exact h.2.2.1.trans (by rw [h1])
  · exact (h.2.2.2 i hi).trans (by rw [h1])
  · show va_up (S.2.1 66) 3 (nI q) i = _
    rw [va_ne _ _ hi, h.2.1 66 (by decide), h1]
theorem xX12_reads {d0 : Nat} (hd0 : 0 ≤ d0) {S0 S1 : k_S} {t : Nat → Int32} {n : Nat} (e1 : S1.2 = S0.2) (e2 : ∀ k, k ≠ 2638 → k ≠ 2639 → k ≠ 2640 → k ≠ 2641 → S1.1 k = S0.1 k) {S : k_S} (hF : FrP S1 S) (hFa : LnF t n S) : AW none MX12_reads d0 0 0 25 [.ref 52, .int (nI 3), .int (nI 0)] [] (hp S) (fun r h' => ∃ v S', r = some (.int v) ∧ h' = hp S' ∧ RdsQ S0 t n v S') := by
  obtain ⟨pf, qf, hpn, hfl, h1, h2⟩ := hFa
  refine k_iload_n eX12_reads_25 rfl ?_
  refine k_if_eqN 56 eX12_reads_26 (by decide) (by omega) (fun c_26 => ?_) (fun c_26 => by exfalso; omega)
  refine k_iload_n eX12_reads_56 rfl ?_
  refine k_if_eqN 75 eX12_reads_57 (by decide) (by omega) (fun c_57 => ?_) (fun c_57 => by exfalso; omega)
  refine k_iconst (v := nI 0) eX12_reads_75 (by decide) ?_
  refine k_istore_n (L2 := [_, _, _]) eX12_reads_76 (Nat.le_of_ble_eq_true rfl) rfl ?_
  refine k_aload_n eX12_reads_77 rfl ?_
  refine GX12_53 eX12_reads_78 rfl ?_
  refine k_iload_n eX12_reads_81 rfl ?_
  refine k_aload_n eX12_reads_82 rfl ?_
  refine GX12_212 eX12_reads_83 rfl ?_
  refine k_topi (nI qf) h2 ?_
  refine k_iastN (j := 3) eX12_reads_86 (ar66 _) (by omega) (Nat.le_of_ble_eq_true rfl) (as66 _ _) ?_
  refine k_aload_n eX12_reads_87 rfl ?_
  refine k_iconst (v := nI 0) eX12_reads_88 (by decide) ?_
  refine PX12_203 eX12_reads_89 rfl ?_
  refine k_iload_n eX12_reads_92 rfl ?_
  refine k_if_eqN 100 eX12_reads_93 (by decide) (by omega) (fun c_93 => ?_) (fun c_93 => by exfalso; omega)
  refine k_aload_n eX12_reads_100 rfl ?_
  refine GX12_206 eX12_reads_101 rfl ?_
  refine k_topi (nI pf) h1 ?_
  refine k_ireturn eX12_reads_104 rfl rfl ?_
  exact ⟨_, _, rfl, rfl, FrT.of e1 e2 hF qf, rfl, Or.inl ⟨pf, hpn, hfl, rfl⟩⟩
set_option maxHeartbeats 1000000 in
theorem lX12_reads {d0 : Nat} (hd0 : 47 ≤ d0) {S0 S1 : k_S} {t : Nat → Int32} {n : Nat} (hn : n ≤ 120) (e1 : S1.2 = S0.2) (e2 : ∀ k, k ≠ 2638 → k ≠ 2639 → k ≠ 2640 → k ≠ 2641 → S1.1 k = S0.1 k) : ∀ (r : Nat) (p1 : Nat) (c1 U1 : List Int32) (d1 : Nat) (as1 : Bool) (m1 : List Int32) (S : k_S), n - p1 < r → p1 ≤ n → crn t p1 = some (c1, U1, d1, false, as1) → (∀ s ∈ U1, 1 ≤ lev s) → rlL ((-59) :: emA U1 c1) m1 → RfS S t n p1 0 m1 → m1.length ≤ p1 + 1 → nxO 1 t n p1 c1 U1 d1 → (as1 = false → p1 < n → ¬ t p1 = nI 63) → FrP S1 S → AW none MX12_reads d0 0 0 25 [.ref 52, .int (nI 3), .int (nI 1)] [] (hp S) (fun r h' => ∃ v S', r = some (.int v) ∧ h' = hp S' ∧ RdsQ S0 t n v S') := by
  intro r
  induction r with
  | zero =>
    intro p1 c1 U1 d1 as1 m1 S hr
    exact absurd hr (Nat.not_lt_zero _)
  | succ r ih =>
    intro p1 c1 U1 d1 as1 m1 S hr q2 q3 hU q5 q6 q7 q8 q9 hF
    refine k_iload_n eX12_reads_25 rfl ?_
    refine k_if_eqN 56 eX12_reads_26 (by decide) (by omega) (fun c_26 => by exfalso; omega) (fun c_26 => ?_)
    refine k_aload_n eX12_reads_29 rfl ?_
    refine cV1 (M' := MX12_here) eX12_reads_30 mX12_215 wX12_here vX12_here ⟨_, _, _, rfl, rfl, rfl⟩ rfl (pX12_here (S := S) q6 hn (by omega)) (by omega) (Nat.le_of_ble_eq_true rfl) ?_
    refine k_bipush (v := nI 59) eX12_reads_33 (by decide) ?_
    refine k_icmp_ne 56 eX12_reads_35 (by decide) (fun c_35 => ?_) (fun c_35 => ?_)
    · refine k_iload_n eX12_reads_56 rfl ?_
      refine k_if_eqN 75 eX12_reads_57 (by decide) (by omega) (fun c_57 => by exfalso; omega) (fun c_57 => ?_)
      refine k_aload_n eX12_reads_60 rfl ?_
      refine GX12_206 eX12_reads_61 rfl ?_
      refine k_topi (nI p1) q6.1 ?_
      refine k_aload_n eX12_reads_64 rfl ?_
      refine GX12_203 eX12_reads_65 rfl ?_
      refine k_topi (nI n) q6.2.2.2.2.1 ?_
      refine k_icmp_neN 75 eX12_reads_68 (by decide) (by omega) (by omega) (fun c_68 => ?_) (fun c_68 => ?_)
      · refine k_iconst (v := nI 0) eX12_reads_75 (by decide) ?_
        refine k_istore_n (L2 := [_, _, _]) eX12_reads_76 (Nat.le_of_ble_eq_true rfl) rfl ?_
        refine k_aload_n eX12_reads_77 rfl ?_
        refine GX12_53 eX12_reads_78 rfl ?_
        refine k_iload_n eX12_reads_81 rfl ?_
        refine k_aload_n eX12_reads_82 rfl ?_
        refine GX12_212 eX12_reads_83 rfl ?_
        refine k_topi (nI (m1.length)) q6.2.2.2.1 ?_
        refine k_iastN (j := 3) eX12_reads_86 (ar66 _) (by omega) (Nat.le_of_ble_eq_true rfl) (as66 _ _) ?_
        refine k_aload_n eX12_reads_87 rfl ?_
        refine k_iconst (v := nI 0) eX12_reads_88 (by decide) ?_
        refine PX12_203 eX12_reads_89 rfl ?_
        refine k_iload_n eX12_reads_92 rfl ?_
        refine k_if_eqN 100 eX12_reads_93 (by decide) (by omega) (fun c_93 => ?_) (fun c_93 => by exfalso; omega)
        refine k_aload_n eX12_reads_100 rfl ?_
        refine GX12_206 eX12_reads_101 rfl ?_
        refine k_topi (nI p1) q6.1 ?_
        refine k_ireturn eX12_reads_104 rfl rfl ?_
        refine ⟨_, _, rfl, rfl, FrT.of e1 e2 hF m1.length, rfl, Or.inl ⟨p1, q2, Or.inl ⟨by omega, _, q3, ?_⟩, rfl⟩⟩
        have hp1 : p1 < n := by omega
        rw [hr_p hp1] at c_35
        rw [← List.append_nil U1]
        rw [← List.append_nil U1] at q8
        refine go_none hU (show lev (hdI []) < 1 by decide) (fun q => absurd q.2 (by decide)) (fun q => c_35 q.1) (fun q => q9 q.2.1 hp1 q.1) (q8 hp1).2 (q8 hp1).1
      refine k_iconst (v := nI 1) eX12_reads_71 (by decide) ?_
      refine k_goto 76 eX12_reads_72 (by decide) ?_
      refine k_istore_n (L2 := [_, _, _]) eX12_reads_76 (Nat.le_of_ble_eq_true rfl) rfl ?_
      refine k_aload_n eX12_reads_77 rfl ?_
      refine GX12_53 eX12_reads_78 rfl ?_
      refine k_iload_n eX12_reads_81 rfl ?_
      refine k_aload_n eX12_reads_82 rfl ?_
      refine GX12_212 eX12_reads_83 rfl ?_
      refine k_topi (nI (m1.length)) q6.2.2.2.1 ?_
      refine k_iastN (j := 3) eX12_reads_86 (ar66 _) (by omega) (Nat.le_of_ble_eq_true rfl) (as66 _ _) ?_
      refine k_aload_n eX12_reads_87 rfl ?_
      refine k_iconst (v := nI 0) eX12_reads_88 (by decide) ?_
      refine PX12_203 eX12_reads_89 rfl ?_
      refine k_iload_n eX12_reads_92 rfl ?_
      refine k_if_eqN 100 eX12_reads_93 (by decide) (by omega) (fun c_93 => by exfalso; omega) (fun c_93 => ?_)
      refine k_iconst (v := (-1)) eX12_reads_96 (by decide) ?_
      refine k_goto 104 eX12_reads_97 (by decide) ?_
      refine k_ireturn eX12_reads_104 rfl rfl ?_
      obtain rfl : n = p1 := by omega
      exact ⟨_, _, rfl, rfl, FrT.of e1 e2 hF m1.length, rfl, Or.inr ⟨rfl, c1, U1, d1, as1, m1, q3, hU, q5, q6.2.2.2.2.2.2, (show va_up (S.2.1 66) 3 (nI m1.length) 3 = _ from va_a1 _ _ _), by omega⟩⟩
    obtain ⟨hpn1, hb⟩ := hr_in c_35 (by decide)
    have hcn := crn_s (st2 := ((-59) :: emA U1 c1, [], 0, true, false)) q3 (by rw [hb, ← List.append_nil U1]; exact (en_st (U := U1) hU).trans (by rw [List.append_nil]))
    have hP2 : RdP (si S 2638 (nI (p1 + 1))) t n (p1 + 1) ((-59) :: emA U1 c1) [] 0 false m1 := ⟨hn, by omega, hcn, q5, q6.pl (p1 + 1), q7⟩
    refine k_aload_n eX12_reads_38 rfl ?_
    refine k_dup eX12_reads_39 rfl ?_
    refine GX12_206 eX12_reads_40 rfl ?_
    refine k_topi (nI p1) q6.1 ?_
    refine k_iconst (v := nI 1) eX12_reads_43 (by decide) ?_
    refine k_iaddN eX12_reads_44 ?_
    refine PX12_206 eX12_reads_45 rfl ?_
    refine k_aload_n eX12_reads_48 rfl ?_
    refine cVB (M' := MX12_readsLine) eX12_reads_49 mX12_250 wX12_readsLine vX12_readsLine ⟨_, _, _, rfl, rfl, rfl⟩ rfl (pX12_readsLine hP2) (by omega) (Nat.le_of_ble_eq_true rfl) ?_
    intro g U hQ
    refine k_istore_n (L2 := [_, _, _]) eX12_reads_52 (Nat.le_of_ble_eq_true rfl) rfl ?_
    refine k_goto 25 eX12_reads_53 (by decide) ?_
    rcases hQ with ⟨hFU, ⟨hg, p2, c2, U2, d2, as2, m2, r1, r2, r3, r4, r5, r6, r7, r8, r9⟩ | ⟨hg, hFa⟩⟩
    · subst hg
      refine k_loc (L2 := [_, _, .int (nI 1)]) (by rw [b2i_t (show true = true from rfl)] <;> rfl) ?_
      exact ih p2 c2 U2 d2 as2 m2 U (by omega) r2 r3 r4 r5 r6 r7 r8 r9 ((hF.si (Or.inl rfl) _).tr hFU)
    · subst hg
      refine k_loc (L2 := [_, _, .int (nI 0)]) (by rw [b2i_f (show ¬ false = true by decide)] <;> rfl) ?_
      exact xX12_reads (by omega) e1 e2 ((hF.si (Or.inl rfl) _).tr hFU) hFa
theorem pX12_reads {S : k_S} {t : Nat → Int32} {n : Nat} (hn : n ≤ 120) (hnn : S.1 2615 = nI n) (ht : S.2.1 64 = t) : Sp 47 0 0 MX12_reads [.ref 52, .int (nI 3)] (hp S) (fun r h' => ∃ v S', r = some (.int v) ∧ h' = hp S' ∧ RdsQ S t n v S') := by
  refine Sp_of (by decide +kernel) (Nat.le_of_ble_eq_true rfl) ?_
  show AW none MX12_reads 47 0 0 0 [.ref 52, .int (nI 3), .null] [] (hp S) _
  refine k_aload_n eX12_reads_0 rfl ?_
  refine k_iconst (v := nI 0) eX12_reads_1 (by decide) ?_
  refine PX12_206 eX12_reads_2 rfl ?_
  refine k_aload_n eX12_reads_5 rfl ?_
  refine k_iconst (v := nI 0) eX12_reads_6 (by decide) ?_
  refine PX12_229 eX12_reads_7 rfl ?_
  refine k_aload_n eX12_reads_10 rfl ?_
  refine k_iload_n eX12_reads_11 rfl ?_
  refine PX12_209 eX12_reads_12 rfl ?_
  refine k_aload_n eX12_reads_15 rfl ?_
  refine k_iconst (v := nI 0) eX12_reads_16 (by decide) ?_
  refine PX12_212 eX12_reads_17 rfl ?_
  refine k_aload_n eX12_reads_20 rfl ?_
  refine cVB (M' := MX12_readsLine) eX12_reads_21 mX12_250 wX12_readsLine vX12_readsLine ⟨_, _, _, rfl, rfl, rfl⟩ rfl (pX12_readsLine (S := (si (si (si (si S 2638 (nI 0)) 2639 (nI 0)) 2640 (nI 3)) 2641 (nI 0))) (t := t) (n := n) (p := 0) (c := []) (dg := 0) (m := []) ⟨hn, Nat.zero_le _, rfl, trivial, ⟨rfl, rfl, rfl, rfl, hnn, ht, trivial⟩, Nat.le_refl _⟩) (by decide) (Nat.le_of_ble_eq_true rfl) ?_
  intro g U hQ
  refine k_istore_n (L2 := [_, _, _]) eX12_reads_24 (Nat.le_of_ble_eq_true rfl) rfl ?_
  have e1 : (si (si (si (si S 2638 (nI 0)) 2639 (nI 0)) 2640 (nI 3)) 2641 (nI 0)).2 = S.2 := rfl
  have e2 : ∀ k, k ≠ 2638 → k ≠ 2639 → k ≠ 2640 → k ≠ 2641 → (si (si (si (si S 2638 (nI 0)) 2639 (nI 0)) 2640 (nI 3)) 2641 (nI 0)).1 k = S.1 k := fun k a b c d => by
    show va_up (va_up (va_up (va_up S.1 2638 _) 2639 _) 2640 _) 2641 _ k = _
    rw [va_ne _ _ d, va_ne _ _ c, va_ne _ _ b, va_ne _ _ a]
  rcases hQ with ⟨hFU, ⟨hg, p2, c2, U2, d2, as2, m2, r1, r2, r3, r4, r5, r6, r7, r8, r9⟩ | ⟨hg, hFa⟩⟩
  · subst hg
    refine k_loc (L2 := [_, _, .int (nI 1)]) (by rw [b2i_t (show true = true from rfl)] <;> rfl) ?_
    exact lX12_reads (by omega) hn e1 e2 (n - p2 + 1) p2 c2 U2 d2 as2 m2 U (by omega) r2 r3 r4 r5 r6 r7 r8 r9 hFU
  · subst hg
    refine k_loc (L2 := [_, _, .int (nI 0)]) (by rw [b2i_f (show ¬ false = true by decide)] <;> rfl) ?_
    exact xX12_reads (by omega) e1 e2 hFU hFa
def fillI (g : Nat → Int32) (o : Nat) (f : Nat → Int32) : Nat → Nat → Int32
  | 0 => f
  | n + 1 => va_up (fillI g o f n) (o + n) (g n)
theorem fillI_at (g : Nat → Int32) (o : Nat) (f : Nat → Int32) : ∀ n j, fillI g o f n j = if o ≤ j ∧ j < o + n then g (j - o) else f j
  | 0, j => by rw [if_neg (by omega)]; rfl
  | n + 1, j => by
    rw [fillI, va_up]
    by_cases h : j = o + n
    · subst h; rw [if_pos rfl, if_pos (by omega), Nat.add_sub_cancel_left]
    · rw [if_neg h, fillI_at g o f n j]
      by_cases h2 : o ≤ j ∧ j < o + n
      · rw [if_pos h2, if_pos (by omega)]
      · rw [if_neg h2, if_neg (by omega)]
/-- nothing but the reader, the tape's length and text q has changed -/
def FrX (q : Nat) (S T : k_S) : Prop := (∀ k, k ≠ 2638 → k ≠ 2639 → k ≠ 2640 → k ≠ 2641 → k ≠ 2615 → T.1 k = S.1 k) ∧ (∀ a, a ≠ 65 → a ≠ 66 → T.2.1 a = S.2.1 a) ∧ T.2.2 = S.2.2 ∧ (∀ i, i < 600 → ¬ (200 * q ≤ i ∧ i < 200 * q + 200) → T.2.1 65 i = S.2.1 65 i) ∧ ∀ i, i ≠ 3 → i ≠ q → T.2.1 66 i = S.2.1 66 i
/-- what text leaves and answers, as the reference does -/
def mTxtQ (S : k_S) (n : Nat) (x v : Int32) (U : k_S) : Prop :=
  (¬ pTxt x ∧ v = -1 ∧ U = S) ∨ (pTxt x ∧ U.1 2615 = nI 0 ∧ ((∃ p, p ≤ n ∧ Flt (S.2.1 64) n p ∧ v = -100 - nI p ∧ FrT S U) ∨ (v = nI 1 ∧ ∃ q c W dg as m, q < 3 ∧ x = nI (q + 1) ∧ FrX q S U ∧ crn (S.2.1 64) n = some (c, W, dg, false, as) ∧ (∀ s ∈ W, 1 ≤ lev s) ∧ rlL ((-59) :: emA W c) m ∧ stk (fun i => U.2.1 65 (200 * q + i)) m ∧ U.2.1 66 q = nI m.length ∧ m.length ≤ 121)))
set_option maxHeartbeats 400000 in
theorem lX12_text {d : Nat} {Po : Option Value → k_H → Prop} (hdd : 0 ≤ d) {S : k_S} {w k0 : Nat} (hw1 : 1 ≤ w) (hw3 : w ≤ 3) (hk : S.2.1 66 3 = nI k0) (hk121 : k0 ≤ 121) (x : Int32) (kx : AW none MX12_text d 0 0 82 [.ref 52, .int (nI w), .int (x), .int (nI k0)] [] (hp (sa S 65 (fillI (fun i => S.2.1 65 (600 + i)) (200 * (w - 1)) (S.2.1 65) k0))) Po) : ∀ (n j : Nat), j + n = k0 → AW none MX12_text d 0 0 42 [.ref 52, .int (nI w), .int (x), .int (nI j)] [] (hp (sa S 65 (fillI (fun i => S.2.1 65 (600 + i)) (200 * (w - 1)) (S.2.1 65) j))) Po := by
  intro n
  induction n with
  | zero =>
    intro j hj
    rw [show j = k0 by omega]
    refine k_iload_n eX12_text_42 rfl ?_
    refine k_aload_n eX12_text_43 rfl ?_
    refine GX12_53 eX12_text_44 rfl ?_
    refine k_iconst (v := nI 3) eX12_text_47 (by decide) ?_
    refine k_ialdN (j := 3) eX12_text_48 (ar66 _) (by omega) (Nat.le_of_ble_eq_true rfl) ?_
    refine k_topi (nI k0) hk ?_
    refine k_icmp_geN 82 eX12_text_49 (by decide) (by omega) (by omega) (fun c_49 => ?_) (fun c_49 => by exfalso; omega)
    exact kx
  | succ n ih =>
    intro j hj
    refine k_iload_n eX12_text_42 rfl ?_
    refine k_aload_n eX12_text_43 rfl ?_
    refine GX12_53 eX12_text_44 rfl ?_
    refine k_iconst (v := nI 3) eX12_text_47 (by decide) ?_
    refine k_ialdN (j := 3) eX12_text_48 (ar66 _) (by omega) (Nat.le_of_ble_eq_true rfl) ?_
    refine k_topi (nI k0) hk ?_
    refine k_icmp_geN 82 eX12_text_49 (by decide) (by omega) (by omega) (fun c_49 => by exfalso; omega) (fun c_49 => ?_)
    refine k_aload_n eX12_text_52 rfl ?_
    refine GX12_50 eX12_text_53 rfl ?_
    refine k_sipush (v := nI 200) eX12_text_56 (by decide) ?_
    refine k_iload_n eX12_text_59 rfl ?_
    refine k_iconst (v := nI 1) eX12_text_60 (by decide) ?_
    refine k_isubN eX12_text_61 (by omega) ?_
    refine k_imulN eX12_text_62 ?_
    refine k_iload_n eX12_text_63 rfl ?_
    refine k_iaddN eX12_text_64 ?_
    refine k_aload_n eX12_text_65 rfl ?_
    refine GX12_50 eX12_text_66 rfl ?_
    refine k_sipush (v := nI 600) eX12_text_69 (by decide) ?_
    refine k_iload_n eX12_text_72 rfl ?_
    refine k_iaddN eX12_text_73 ?_
    refine k_ialdN (j := (600 + j)) eX12_text_74 (ar65 _) (by omega) (Nat.le_of_ble_eq_true rfl) ?_
    refine k_topi ((S.2.1 65 (600 + j))) (by rw [sa_at, fillI_at, if_neg (by omega)]) ?_
    refine k_iastN (j := ((200 * (w - 1)) + j)) eX12_text_75 (ar65 _) (by omega) (Nat.le_of_ble_eq_true rfl) (as65 _ _) ?_
    refine k_iincN (g := 1) (a := j) (L2 := [_, _, _, _]) eX12_text_76 (Nat.le_of_ble_eq_true rfl) rfl rfl ?_
    refine k_goto 42 eX12_text_79 (by decide) ?_
    have q := ih (j + 1) (by omega)
    rw [fillI] at q
    rw [sa_sa, sa_at]
    exact q
set_option maxHeartbeats 400000 in
theorem pX12_text {S : k_S} {n : Nat} (hn : n ≤ 120) (hnn : S.1 2615 = nI n) (x : Int32) : Sp 48 0 0 MX12_text [.ref 52, .int (x)] (hp S) (fun r h' => ∃ v U, r = some (.int v) ∧ h' = hp U ∧ mTxtQ S n x v U) := by
  refine Sp_of (by decide +kernel) (Nat.le_of_ble_eq_true rfl) ?_
  show AW none MX12_text 48 0 0 0 [.ref 52, .int (x), .null, .null] [] (hp S) _
  refine k_iload_n eX12_text_0 rfl ?_
  refine k_iconst (v := nI 1) eX12_text_1 (by decide) ?_
  refine k_iconst (v := nI 3) eX12_text_2 (by decide) ?_
  refine cS1 (M' := MX12_in) eX12_text_3 mX12_120 wX12_in sX12_in rfl (pX12_in (x) (nI 1) (nI 3)) (by decide) (Nat.le_of_ble_eq_true rfl) ?_
  refine k_ifb_ne 11 eX12_text_6 (by decide) (fun c_6 => ?_) (fun c_6 => ?_)
  · obtain ⟨w, hw, rfl⟩ := k_rngle (Int32.le_trans (by decide) c_6.1) c_6.2 (by decide)
    have hw1 : 1 ≤ w := by have h8 := Int32.le_iff_toInt_le.mp c_6.1; rw [nI_toInt (by omega), nI_toInt (by omega)] at h8; omega
    refine k_aload_n eX12_text_11 rfl ?_
    refine k_iconst (v := nI 3) eX12_text_12 (by decide) ?_
    refine cVE1 (M' := MX12_reads) eX12_text_13 mX12_253 wX12_reads vX12_reads ⟨_, _, _, rfl, rfl, rfl⟩ rfl (pX12_reads (S := S) hn hnn rfl) (by decide) (Nat.le_of_ble_eq_true rfl) ?_
    rintro v U ⟨hFT, h15, hQ⟩
    refine k_istore_n (L2 := [_, _, _, _]) eX12_text_16 (Nat.le_of_ble_eq_true rfl) rfl ?_
    refine k_iload_n eX12_text_17 rfl ?_
    refine k_if_lt 26 eX12_text_18 (by decide) (fun c_18 => ?_) (fun c_18 => ?_)
    · have hok : ∃ c W dg as m, crn (S.2.1 64) n = some (c, W, dg, false, as) ∧ (∀ s ∈ W, 1 ≤ lev s) ∧ rlL ((-59) :: emA W c) m ∧ stk (fun i => U.2.1 65 (600 + i)) m ∧ U.2.1 66 3 = nI m.length ∧ m.length ≤ 121 := by
        rcases hQ with ⟨p, a1, a2, a3⟩ | ⟨_, h⟩
        · rw [a3] at c_18; exact absurd c_18 (nI_pos (by omega))
        · exact h
      obtain ⟨c, W, dg, as, m, k1, k2, k3, k4, k5, k6⟩ := hok
      refine k_aload_n eX12_text_26 rfl ?_
      refine GX12_53 eX12_text_27 rfl ?_
      refine k_iload_n eX12_text_30 rfl ?_
      refine k_iconst (v := nI 1) eX12_text_31 (by decide) ?_
      refine k_isubN eX12_text_32 (by omega) ?_
      refine k_aload_n eX12_text_33 rfl ?_
      refine GX12_53 eX12_text_34 rfl ?_
      refine k_iconst (v := nI 3) eX12_text_37 (by decide) ?_
      refine k_ialdN (j := 3) eX12_text_38 (ar66 _) (by omega) (Nat.le_of_ble_eq_true rfl) ?_
      refine k_topi (nI (m.length)) k5 ?_
      refine k_iastN (j := (w - 1)) eX12_text_39 (ar66 _) (by omega) (Nat.le_of_ble_eq_true rfl) (as66 _ _) ?_
      refine k_iconst (v := nI 0) eX12_text_40 (by decide) ?_
      refine k_istore_n (L2 := [_, _, _, _]) eX12_text_41 (Nat.le_of_ble_eq_true rfl) rfl ?_
      refine k_heap (h2 := hp (sa (sa U 66 (va_up (U.2.1 66) (w - 1) (nI m.length))) 65 (fillI (fun i => (sa U 66 (va_up (U.2.1 66) (w - 1) (nI m.length))).2.1 65 (600 + i)) (200 * (w - 1)) ((sa U 66 (va_up (U.2.1 66) (w - 1) (nI m.length))).2.1 65) 0))) (by rw [fillI, sa_self]) ?_
      refine lX12_text (by decide) (S := (sa U 66 (va_up (U.2.1 66) (w - 1) (nI m.length)))) (w := w) (k0 := m.length) hw1 (by omega) (by show va_up (U.2.1 66) (w - 1) (nI m.length) 3 = _; rw [va_ne _ _ (by omega)]; exact k5) k6 v ?_ m.length 0 (by omega)
      refine k_iconst (v := nI 1) eX12_text_82 (by decide) ?_
      refine k_ireturn eX12_text_83 rfl rfl ?_
      refine ⟨_, _, rfl, rfl, Or.inr ⟨c_6, h15, Or.inr ⟨rfl, w - 1, c, W, dg, as, m, by omega, by rw [show w - 1 + 1 = w by omega], ⟨hFT.1, fun a a1 a2 => (if_neg a1).trans ((if_neg a2).trans (hFT.2.1 a a1 a2)), hFT.2.2.1, fun i hi hni => ?_, fun i hi hiq => ?_⟩, k1, k2, k3, ?_, va_a1 _ _ _, k6⟩⟩⟩
      · show fillI _ (200 * (w - 1)) (U.2.1 65) m.length i = _
        rw [fillI_at, if_neg (by omega)]; exact hFT.2.2.2.1 i hi
      · show va_up (U.2.1 66) (w - 1) (nI m.length) i = _
        rw [va_ne _ _ hiq]; exact hFT.2.2.2.2 i hi
      · refine stk_cg (fun i hi => ?_) k4
        show U.2.1 65 (600 + i) = fillI (fun i => U.2.1 65 (600 + i)) (200 * (w - 1)) (U.2.1 65) m.length (200 * (w - 1) + i)
        rw [fillI_at, if_pos (by omega), Nat.add_sub_cancel_left]
    refine k_bipush (v := (-100)) eX12_text_21 (by decide) ?_
    refine k_iload_n eX12_text_23 rfl ?_
    refine k_isub eX12_text_24 ?_
    refine k_ireturn eX12_text_25 rfl rfl ?_
    refine ⟨_, U, rfl, rfl, Or.inr ⟨c_6, h15, Or.inl ?_⟩⟩
    rcases hQ with ⟨p, a1, a2, a3⟩ | ⟨a1, _⟩
    · exact ⟨p, a1, a2, by rw [a3], hFT⟩
    · rw [a1] at c_18; exact absurd (show (-1 : Int32) < 0 by decide) c_18
  refine k_iconst (v := (-1)) eX12_text_9 (by decide) ?_
  refine k_ireturn eX12_text_10 rfl rfl ?_
  exact ⟨_, S, rfl, rfl, Or.inl ⟨c_6, rfl, rfl⟩⟩
