theorem flt_wt {t : Nat → Int32} {n p : Nat} {c W : List Int32} {dg : Nat} {as : Bool} (hc : crn t p = some (c, W, dg, true, as)) (hpn : p ≤ n) (h : p < n → cst (c, W, dg, true, as) (t p) = none) : Flt t n p := by
  by_cases q : p < n
  · exact Or.inl ⟨q, _, hc, h q⟩
  · have e : p = n := by omega
    subst e
    exact Or.inr ⟨rfl, _, hc, fun z => by cases z.1⟩
theorem nam_pos {b : Int32} (h : 0 ≤ nam b) : 0 < b := by
  unfold nam at h
  repeat' split at h
  all_goals first | (subst b; decide) | exact absurd h (by decide)
theorem nam_kx {b : Int32} (h : 0 ≤ nam b) : ∃ k, k < 7 ∧ nam b = nI k := ⟨ix (nam b), (nam_rng b h).2, (nam_rng b h).1⟩
theorem nm_b {c W : List Int32} {dg : Nat} {as : Bool} {b : Int32} (h1 : ¬ pIn b (nI 48) (nI 57)) (h2 : 0 ≤ nam b) : cst (c, W, dg, true, as) b = some ((-b) :: c, W, 0, false, as) := by
  rw [cst_b, bgP, if_neg h1, if_pos h2]
theorem opn_ex {t : Nat → Int32} {n p : Nat} {c W : List Int32} {dg : Nat} {as : Bool} (hc : crn t p = some (c, W, dg, true, as)) (ho : oc W < 6) (h : hrV t n p = nI 40 ∨ hrV t n p = nI 33 ∨ hrV t n p = nI 45) : ∃ s, ((hrV t n p = nI 40 ∧ s = nI 40) ∨ (hrV t n p = nI 33 ∧ s = nI 33) ∨ (hrV t n p = nI 45 ∧ s = nI 126)) ∧ p < n ∧ crn t (p + 1) = some (c, s :: W, dg, true, as) ∧ oc (s :: W) = oc W + 1 := by
  rcases h with h | h | h
  · obtain ⟨h1, h2⟩ := hr_in h (by decide)
    exact ⟨nI 40, Or.inl ⟨h, rfl⟩, h1, crn_s hc (by rw [h2, cst_b, bgP, if_neg (by decide), if_neg (by decide), if_pos (Or.inl rfl), if_pos ho]; rfl), oc_push W (Or.inr rfl)⟩
  · obtain ⟨h1, h2⟩ := hr_in h (by decide)
    exact ⟨nI 33, Or.inr (Or.inl ⟨h, rfl⟩), h1, crn_s hc (by rw [h2, cst_b, bgP, if_neg (by decide), if_neg (by decide), if_pos (Or.inr (Or.inl rfl)), if_pos ho]; rfl), oc_push W (Or.inl (by decide))⟩
  · obtain ⟨h1, h2⟩ := hr_in h (by decide)
    exact ⟨nI 126, Or.inr (Or.inr ⟨h, rfl⟩), h1, crn_s hc (by rw [h2, cst_b, bgP, if_neg (by decide), if_neg (by decide), if_pos (Or.inr (Or.inr rfl)), if_pos ho]; rfl), oc_push W (Or.inl (by decide))⟩
set_option maxHeartbeats 1000000 in
theorem cOne {f D DA DO : Nat} (hD : 3 ≤ D) (hDA : DA ≤ D) (hDO : DO ≤ D) (hI : ∀ g, g + 1 = f → RdC MX12_readsAll 1 DA g ∧ RdC MX12_readsOne 6 DO g) : RdC MX12_readsOne 6 (D + 1) f := by
  intro S t n p c W dg as m hP hk hf
  obtain ⟨hn, hpn, hc, hrl, hR, hml⟩ := hP
  refine Sp_of (by decide +kernel) (Nat.le_of_ble_eq_true rfl) ?_
  show AW none MX12_readsOne (D + 1) 0 0 0 [.ref 52, .null, .null] [] (hp S) _
  refine k_aload_n eX12_readsOne_0 rfl ?_
  refine cV1 (M' := MX12_here) eX12_readsOne_1 mX12_215 wX12_here vX12_here ⟨_, _, _, rfl, rfl, rfl⟩ rfl (pX12_here (S := S) hR hn (by omega)) (by omega) (Nat.le_of_ble_eq_true rfl) ?_
  refine k_istore_n (L2 := [_, _, _]) eX12_readsOne_4 (Nat.le_of_ble_eq_true rfl) rfl ?_
  refine k_iload_n eX12_readsOne_5 rfl ?_
  refine k_bipush (v := nI 48) eX12_readsOne_6 (by decide) ?_
  refine k_bipush (v := nI 57) eX12_readsOne_8 (by decide) ?_
  refine cS1 (M' := MX12_in) eX12_readsOne_10 mX12_120 wX12_in sX12_in rfl (pX12_in ((hrV t n p)) (nI 48) (nI 57)) (by omega) (Nat.le_of_ble_eq_true rfl) ?_
  refine k_ifb_eq 21 eX12_readsOne_13 (by decide) (fun c_13 => ?_) (fun c_13 => ?_)
  · refine k_iload_n eX12_readsOne_21 rfl ?_
    refine cS1 (M' := MX12_nameOf) eX12_readsOne_22 mX12_226 wX12_nameOf sX12_nameOf rfl (pX12_nameOf ((hrV t n p))) (by omega) (Nat.le_of_ble_eq_true rfl) ?_
    refine k_if_lt 48 eX12_readsOne_25 (by decide) (fun c_25 => ?_) (fun c_25 => ?_)
    · refine k_iload_n eX12_readsOne_48 rfl ?_
      refine k_bipush (v := nI 40) eX12_readsOne_49 (by decide) ?_
      refine k_icmp_eq 66 eX12_readsOne_51 (by decide) (fun c_51 => ?_) (fun c_51 => ?_)
      · refine k_aload_n eX12_readsOne_66 rfl ?_
        refine GX12_229 eX12_readsOne_67 rfl ?_
        refine k_topi (nI (oc W)) hR.2.1 ?_
        refine k_bipush (v := nI 6) eX12_readsOne_70 (by decide) ?_
        refine k_icmp_neN 77 eX12_readsOne_72 (by decide) (by omega) (by omega) (fun c_72 => ?_) (fun c_72 => ?_)
        · have ho6 : oc W < 6 := by omega
          obtain ⟨g9, hg9⟩ : ∃ g9, f = g9 + 1 := ⟨f - 1, by omega⟩
          obtain ⟨s, hs, hpn1, hcs, hos⟩ := opn_ex (n := n) hc ho6 (by first | exact Or.inl c_51 | exact Or.inr (Or.inl c_57) | exact Or.inr (Or.inr c_63))
          have hP2 : RdP (si (si S 2639 (nI (oc W + 1))) 2638 (nI (p + 1))) t n (p + 1) c (s :: W) dg as m := ⟨hn, by omega, hcs, hrl, by rw [hos]; exact (hR.op (oc W + 1)).pl (p + 1), by omega⟩
          have hF2 : FrP S (si (si S 2639 (nI (oc W + 1))) 2638 (nI (p + 1))) := ((FrP.rf S).si (Or.inr (Or.inl rfl)) _).si (Or.inl rfl) _
          refine k_aload_n eX12_readsOne_77 rfl ?_
          refine k_dup eX12_readsOne_78 rfl ?_
          refine GX12_229 eX12_readsOne_79 rfl ?_
          refine k_topi (nI (oc W)) hR.2.1 ?_
          refine k_iconst (v := nI 1) eX12_readsOne_82 (by decide) ?_
          refine k_iaddN eX12_readsOne_83 ?_
          refine PX12_229 eX12_readsOne_84 rfl ?_
          refine k_aload_n eX12_readsOne_87 rfl ?_
          refine k_dup eX12_readsOne_88 rfl ?_
          refine GX12_206 eX12_readsOne_89 rfl ?_
          refine k_topi (nI p) (hR.op ((oc W) + 1)).1 ?_
          refine k_iconst (v := nI 1) eX12_readsOne_92 (by decide) ?_
          refine k_iaddN eX12_readsOne_93 ?_
          refine PX12_206 eX12_readsOne_94 rfl ?_
          refine k_iload_n eX12_readsOne_97 rfl ?_
          refine k_bipush (v := nI 40) eX12_readsOne_98 (by decide) ?_
          refine k_icmp_ne 110 eX12_readsOne_100 (by decide) (fun c_100 => ?_) (fun c_100 => ?_)
          · refine k_aload_n eX12_readsOne_110 rfl ?_
            have el : lev s = 6 := by
              rcases hs with h | h | h
              · exact absurd h.1 c_100
              · rw [h.2]; decide
              · rw [h.2]; decide
            refine cVB (M' := MX12_readsOne) eX12_readsOne_111 mX12_235 wX12_readsOne vX12_readsOne ⟨_, _, _, rfl, rfl, rfl⟩ rfl ((hI g9 (by omega)).2 (S := (si (si S 2639 (nI (oc W + 1))) 2638 (nI (p + 1)))) (t := t) (n := n) (p := p + 1) (c := c) (W := s :: W) (dg := dg) (as := as) (m := m) hP2 (fun q => absurd q (by decide)) (by omega)) (by omega) (Nat.le_of_ble_eq_true rfl) ?_
            intro g U hQ
            refine k_istore_n (L2 := [_, _, _]) eX12_readsOne_114 (Nat.le_of_ble_eq_true rfl) rfl ?_
            refine k_iload_n eX12_readsOne_115 rfl ?_
            refine k_ifb_eq 158 eX12_readsOne_116 (by decide) (fun c_116 => ?_) (fun c_116 => ?_)
            · refine k_loc (L2 := [_, _, .int (nI 0)]) (by rw [b2i_f c_116] <;> rfl) ?_
              refine k_iload_n eX12_readsOne_158 rfl ?_
              refine k_if_eqN 185 eX12_readsOne_159 (by decide) (by omega) (fun c_159 => ?_) (fun c_159 => by exfalso; omega)
              refine k_aload_n eX12_readsOne_185 rfl ?_
              refine k_dup eX12_readsOne_186 rfl ?_
              refine GX12_229 eX12_readsOne_187 rfl ?_
              refine k_iconst (v := nI 1) eX12_readsOne_190 (by decide) ?_
              refine k_isub eX12_readsOne_191 ?_
              refine PX12_229 eX12_readsOne_192 rfl ?_
              refine k_iload_n eX12_readsOne_195 rfl ?_
              refine k_ireturn eX12_readsOne_196 rfl rfl ?_
              rcases hQ with ⟨hFU, ⟨hg, hT⟩ | ⟨hg, p1, q1, a1, a1n, a2, a3, a4, a5⟩⟩
              · exact absurd hg c_116
              · exact ⟨false, _, rt_f (by decide), rfl, (hF2.tr hFU).si (Or.inr (Or.inl rfl)) _, Or.inr ⟨rfl, p1, q1, by omega, a1n, a2, a3, a4, by omega⟩⟩
            have hT : PsT 6 6 t n (p + 1) (s :: W) as m U := by
              rcases hQ.2 with h | h
              · exact h.2
              · exact absurd c_116 (by rw [h.1]; decide)
            obtain ⟨p1, c1, U1, d1, m1, q1, q2, q3, q4, q5, q6, q7, q8⟩ := hT
            refine k_loc (L2 := [_, _, .int (nI 1)]) (by rw [b2i_t c_116] <;> rfl) ?_
            refine k_iload_n eX12_readsOne_119 rfl ?_
            refine k_bipush (v := nI 40) eX12_readsOne_120 (by decide) ?_
            refine k_icmp_ne 158 eX12_readsOne_122 (by decide) (fun c_122 => ?_) (fun c_122 => by exact absurd c_122 c_100)
            skip
            refine k_iload_n eX12_readsOne_158 rfl ?_
            refine k_if_eqN 185 eX12_readsOne_159 (by decide) (by omega) (fun c_159 => by exfalso; omega) (fun c_159 => ?_)
            refine k_iload_n eX12_readsOne_162 rfl ?_
            refine k_bipush (v := nI 40) eX12_readsOne_163 (by decide) ?_
            refine k_icmp_eq 185 eX12_readsOne_165 (by decide) (fun c_165 => by exact absurd c_165 c_100) (fun c_165 => ?_)
            refine k_aload_n eX12_readsOne_168 rfl ?_
            refine k_iload_n eX12_readsOne_169 rfl ?_
            refine k_bipush (v := nI 33) eX12_readsOne_170 (by decide) ?_
            refine k_icmp_ne 180 eX12_readsOne_172 (by decide) (fun c_172 => ?_) (fun c_172 => ?_)
            · refine k_bipush (v := nI 19) eX12_readsOne_180 (by decide) ?_
              refine cV0 (M' := MX12_emits) eX12_readsOne_182 mX12_219 wX12_emits vX12_emits ⟨_, _, _, rfl, rfl, rfl⟩ rfl (pX12_emits (S := U) (q := m1.length) q6.2.2.1 q6.2.2.2.1 (by omega) (nI 19)) (by omega) (Nat.le_of_ble_eq_true rfl) ?_
              refine k_aload_n eX12_readsOne_185 rfl ?_
              refine k_dup eX12_readsOne_186 rfl ?_
              refine GX12_229 eX12_readsOne_187 rfl ?_
              refine k_iconst (v := nI 1) eX12_readsOne_190 (by decide) ?_
              refine k_isub eX12_readsOne_191 ?_
              refine PX12_229 eX12_readsOne_192 rfl ?_
              refine k_iload_n eX12_readsOne_195 rfl ?_
              refine k_ireturn eX12_readsOne_196 rfl rfl ?_
              have eo : (U.1 2639) - nI 1 = nI (oc W) := by rw [q6.2.1, hos, pk_sub (by omega), Nat.add_sub_cancel]
              have hx : cRl (-s) (nI 19) := by
                rcases hs with h | h | h
                · exact absurd h.1 c_100
                · first
                  | (rw [h.2]; exact Or.inr (Or.inr (Or.inl ⟨rfl, rfl⟩)))
                  | exact absurd h.1 c_172
                · first
                  | (rw [h.2]; exact Or.inr (Or.inr (Or.inr (Or.inl ⟨rfl, rfl⟩))))
                  | (rw [h.1] at c_172; exact absurd c_172 (by decide))
              refine ⟨true, _, rt_t rfl, rfl, ((hF2.tr hQ.1).em _ _).si (Or.inr (Or.inl rfl)) _, Or.inl ⟨rfl, p1, c1, U1 ++ [s], d1, nI 19 :: m1, by omega, q2, by rw [List.append_assoc]; exact q3, ?_, by rw [emA_app]; exact ⟨hx, q5⟩, ?_, by simp only [List.length_cons]; omega, by rw [List.append_assoc]; exact q8⟩⟩
              · intro z hz
                rcases List.mem_append.mp hz with hz | hz
                · exact q4 z hz
                · rw [List.mem_singleton.mp hz]; omega
              · have q9 := (q6.em (nI 19)).op (oc W)
                rw [← eo] at q9
                exact q9
            refine k_bipush (v := nI 13) eX12_readsOne_175 (by decide) ?_
            refine k_goto 182 eX12_readsOne_177 (by decide) ?_
            refine cV0 (M' := MX12_emits) eX12_readsOne_182 mX12_219 wX12_emits vX12_emits ⟨_, _, _, rfl, rfl, rfl⟩ rfl (pX12_emits (S := U) (q := m1.length) q6.2.2.1 q6.2.2.2.1 (by omega) (nI 13)) (by omega) (Nat.le_of_ble_eq_true rfl) ?_
            refine k_aload_n eX12_readsOne_185 rfl ?_
            refine k_dup eX12_readsOne_186 rfl ?_
            refine GX12_229 eX12_readsOne_187 rfl ?_
            refine k_iconst (v := nI 1) eX12_readsOne_190 (by decide) ?_
            refine k_isub eX12_readsOne_191 ?_
            refine PX12_229 eX12_readsOne_192 rfl ?_
            refine k_iload_n eX12_readsOne_195 rfl ?_
            refine k_ireturn eX12_readsOne_196 rfl rfl ?_
            have eo : (U.1 2639) - nI 1 = nI (oc W) := by rw [q6.2.1, hos, pk_sub (by omega), Nat.add_sub_cancel]
            have hx : cRl (-s) (nI 13) := by
              rcases hs with h | h | h
              · exact absurd h.1 c_100
              · first
                | (rw [h.2]; exact Or.inr (Or.inr (Or.inl ⟨rfl, rfl⟩)))
                | exact absurd h.1 c_172
              · first
                | (rw [h.2]; exact Or.inr (Or.inr (Or.inr (Or.inl ⟨rfl, rfl⟩))))
                | (rw [h.1] at c_172; exact absurd c_172 (by decide))
            refine ⟨true, _, rt_t rfl, rfl, ((hF2.tr hQ.1).em _ _).si (Or.inr (Or.inl rfl)) _, Or.inl ⟨rfl, p1, c1, U1 ++ [s], d1, nI 13 :: m1, by omega, q2, by rw [List.append_assoc]; exact q3, ?_, by rw [emA_app]; exact ⟨hx, q5⟩, ?_, by simp only [List.length_cons]; omega, by rw [List.append_assoc]; exact q8⟩⟩
            · intro z hz
              rcases List.mem_append.mp hz with hz | hz
              · exact q4 z hz
              · rw [List.mem_singleton.mp hz]; omega
            · have q9 := (q6.em (nI 13)).op (oc W)
              rw [← eo] at q9
              exact q9
          refine k_aload_n eX12_readsOne_103 rfl ?_
          have es : s = nI 40 := by
            rcases hs with h | h | h
            · exact h.2
            · rw [h.1] at c_100; exact absurd c_100 (by decide)
            · rw [h.1] at c_100; exact absurd c_100 (by decide)
          refine k_loc (L2 := [_, .int (nI 40), _]) (by rw [c_100] <;> rfl) ?_
          refine cVB (M' := MX12_readsAll) eX12_readsOne_104 mX12_232 wX12_readsAll vX12_readsAll ⟨_, _, _, rfl, rfl, rfl⟩ rfl ((hI g9 (by omega)).1 (S := (si (si S 2639 (nI (oc W + 1))) 2638 (nI (p + 1)))) (t := t) (n := n) (p := p + 1) (c := c) (W := s :: W) (dg := dg) (as := as) (m := m) hP2 (fun _ => by rw [show s = nI 40 from es]; show lev (nI 40) < 1; decide) (by omega)) (by omega) (Nat.le_of_ble_eq_true rfl) ?_
          intro g U hQ
          refine k_goto 114 eX12_readsOne_107 (by decide) ?_
          refine k_istore_n (L2 := [_, _, _]) eX12_readsOne_114 (Nat.le_of_ble_eq_true rfl) rfl ?_
          refine k_iload_n eX12_readsOne_115 rfl ?_
          refine k_ifb_eq 158 eX12_readsOne_116 (by decide) (fun c_116 => ?_) (fun c_116 => ?_)
          · refine k_loc (L2 := [_, _, .int (nI 0)]) (by rw [b2i_f c_116] <;> rfl) ?_
            refine k_iload_n eX12_readsOne_158 rfl ?_
            refine k_if_eqN 185 eX12_readsOne_159 (by decide) (by omega) (fun c_159 => ?_) (fun c_159 => by exfalso; omega)
            refine k_aload_n eX12_readsOne_185 rfl ?_
            refine k_dup eX12_readsOne_186 rfl ?_
            refine GX12_229 eX12_readsOne_187 rfl ?_
            refine k_iconst (v := nI 1) eX12_readsOne_190 (by decide) ?_
            refine k_isub eX12_readsOne_191 ?_
            refine PX12_229 eX12_readsOne_192 rfl ?_
            refine k_iload_n eX12_readsOne_195 rfl ?_
            refine k_ireturn eX12_readsOne_196 rfl rfl ?_
            rcases hQ with ⟨hFU, ⟨hg, hT⟩ | ⟨hg, p1, q1, a1, a1n, a2, a3, a4, a5⟩⟩
            · exact absurd hg c_116
            · exact ⟨false, _, rt_f (by decide), rfl, (hF2.tr hFU).si (Or.inr (Or.inl rfl)) _, Or.inr ⟨rfl, p1, q1, by omega, a1n, a2, a3, a4, by omega⟩⟩
          have hT : PsT 1 1 t n (p + 1) (s :: W) as m U := by
            rcases hQ.2 with h | h
            · exact h.2
            · exact absurd c_116 (by rw [h.1]; decide)
          obtain ⟨p1, c1, U1, d1, m1, q1, q2, q3, q4, q5, q6, q7, q8⟩ := hT
          refine k_loc (L2 := [_, _, .int (nI 1)]) (by rw [b2i_t c_116] <;> rfl) ?_
          refine k_iload_n eX12_readsOne_119 rfl ?_
          refine k_bipush (v := nI 40) eX12_readsOne_120 (by decide) ?_
          refine k_icmp_neN 158 eX12_readsOne_122 (by decide) (by omega) (by omega) (fun c_122 => by exfalso; omega) (fun c_122 => ?_)
          refine k_aload_n eX12_readsOne_125 rfl ?_
          refine cV1 (M' := MX12_here) eX12_readsOne_126 mX12_215 wX12_here vX12_here ⟨_, _, _, rfl, rfl, rfl⟩ rfl (pX12_here (S := U) q6 hn (by omega)) (by omega) (Nat.le_of_ble_eq_true rfl) ?_
          refine k_bipush (v := nI 41) eX12_readsOne_129 (by decide) ?_
          refine k_icmp_ne 138 eX12_readsOne_131 (by decide) (fun c_131 => ?_) (fun c_131 => ?_)
          · refine k_iconst (v := nI 0) eX12_readsOne_138 (by decide) ?_
            refine k_istore_n (L2 := [_, _, _]) eX12_readsOne_139 (Nat.le_of_ble_eq_true rfl) rfl ?_
            refine k_aload_n eX12_readsOne_140 rfl ?_
            refine k_dup eX12_readsOne_141 rfl ?_
            refine GX12_206 eX12_readsOne_142 rfl ?_
            refine k_topi (nI p1) q6.1 ?_
            refine k_iload_n eX12_readsOne_145 rfl ?_
            refine k_if_eqN 153 eX12_readsOne_146 (by decide) (by omega) (fun c_146 => ?_) (fun c_146 => by exfalso; omega)
            refine k_iconst (v := nI 0) eX12_readsOne_153 (by decide) ?_
            refine k_iaddN eX12_readsOne_154 ?_
            refine PX12_206 eX12_readsOne_155 rfl ?_
            skip
            refine k_iload_n eX12_readsOne_158 rfl ?_
            refine k_if_eqN 185 eX12_readsOne_159 (by decide) (by omega) (fun c_159 => ?_) (fun c_159 => by exfalso; omega)
            refine k_aload_n eX12_readsOne_185 rfl ?_
            refine k_dup eX12_readsOne_186 rfl ?_
            refine GX12_229 eX12_readsOne_187 rfl ?_
            refine k_iconst (v := nI 1) eX12_readsOne_190 (by decide) ?_
            refine k_isub eX12_readsOne_191 ?_
            refine PX12_229 eX12_readsOne_192 rfl ?_
            refine k_iload_n eX12_readsOne_195 rfl ?_
            refine k_ireturn eX12_readsOne_196 rfl rfl ?_
            refine ⟨false, _, rt_f (by decide), rfl, ((hF2.tr hQ.1).si (Or.inl rfl) _).si (Or.inr (Or.inl rfl)) _, Or.inr ⟨rfl, p1, m1.length, by omega, q2, ?_, rfl, q6.2.2.2.1, by omega⟩⟩
            rw [es] at q3 q8
            by_cases hp : p1 < n
            · refine Or.inl ⟨hp, _, q3, ?_⟩
              rw [hr_p hp] at c_131
              exact go_none q4 (show lev (nI 40) < 1 by decide) (fun q => c_131 q.1) (fun q => by cases q.2) (fun q => by cases q.2.2) (q8 hp).2 (q8 hp).1
            · have e : p1 = n := by omega
              subst e
              refine Or.inr ⟨rfl, _, q3, fun z => ?_⟩
              have z2 := z.2
              rw [ew_emA (show lev (hdI (nI 40 :: W)) < 1 from by show lev (nI 40) < 1; decide) U1 c1 q4] at z2
              cases z2
          refine k_iconst (v := nI 1) eX12_readsOne_134 (by decide) ?_
          refine k_goto 139 eX12_readsOne_135 (by decide) ?_
          refine k_istore_n (L2 := [_, _, _]) eX12_readsOne_139 (Nat.le_of_ble_eq_true rfl) rfl ?_
          refine k_aload_n eX12_readsOne_140 rfl ?_
          refine k_dup eX12_readsOne_141 rfl ?_
          refine GX12_206 eX12_readsOne_142 rfl ?_
          refine k_topi (nI p1) q6.1 ?_
          refine k_iload_n eX12_readsOne_145 rfl ?_
          refine k_if_eqN 153 eX12_readsOne_146 (by decide) (by omega) (fun c_146 => by exfalso; omega) (fun c_146 => ?_)
          refine k_iconst (v := nI 1) eX12_readsOne_149 (by decide) ?_
          refine k_goto 154 eX12_readsOne_150 (by decide) ?_
          refine k_iaddN eX12_readsOne_154 ?_
          refine PX12_206 eX12_readsOne_155 rfl ?_
          skip
          refine k_iload_n eX12_readsOne_158 rfl ?_
          refine k_if_eqN 185 eX12_readsOne_159 (by decide) (by omega) (fun c_159 => by exfalso; omega) (fun c_159 => ?_)
          refine k_iload_n eX12_readsOne_162 rfl ?_
          refine k_bipush (v := nI 40) eX12_readsOne_163 (by decide) ?_
          refine k_icmp_eqN 185 eX12_readsOne_165 (by decide) (by omega) (by omega) (fun c_165 => ?_) (fun c_165 => by exfalso; omega)
          refine k_aload_n eX12_readsOne_185 rfl ?_
          refine k_dup eX12_readsOne_186 rfl ?_
          refine GX12_229 eX12_readsOne_187 rfl ?_
          refine k_iconst (v := nI 1) eX12_readsOne_190 (by decide) ?_
          refine k_isub eX12_readsOne_191 ?_
          refine PX12_229 eX12_readsOne_192 rfl ?_
          refine k_iload_n eX12_readsOne_195 rfl ?_
          refine k_ireturn eX12_readsOne_196 rfl rfl ?_
          have eo : (U.1 2639) - nI 1 = nI (oc W) := by rw [q6.2.1, hos, pk_sub (by omega), Nat.add_sub_cancel]
          obtain ⟨hb1, hb2⟩ := hr_in c_131 (by decide)
          rw [es] at q3
          have hcn := crn_s q3 (by rw [hb2]; exact cl_st q4)
          refine ⟨true, _, rt_t rfl, rfl, ((hF2.tr hQ.1).si (Or.inl rfl) _).si (Or.inr (Or.inl rfl)) _, Or.inl ⟨rfl, p1 + 1, emA U1 c1, [], 0, m1, by omega, by omega, hcn, (fun s hs => by cases hs), q5, ?_, by omega, fun hp => ⟨fun q1 q2 => absurd q1 (by omega), fun q => Or.inl (by decide)⟩⟩⟩
          have q9 := (q6.pl (p1 + 1)).op (oc W)
          rw [← eo] at q9
          exact q9
        refine k_iconst (v := nI 0) eX12_readsOne_75 (by decide) ?_
        refine k_ireturn eX12_readsOne_76 rfl rfl ?_
        refine ⟨false, S, rt_f (by decide), rfl, FrP.rf S, Or.inr ⟨rfl, p, m.length, Nat.le_refl _, hpn, flt_wt hc hpn (fun hp => ?_), hR.1, hR.2.2.2.1, Nat.le_refl _⟩⟩
        rw [hr_p hp] at c_13 c_25
        refine wt_none c_13 (Int32.not_le.mpr c_25) ?_
        first
        | exact Or.inr (by omega)
        | (rw [hr_p hp] at c_51 c_57 c_63; exact Or.inl (fun q => by rcases q with q | q | q; exact c_51 q; exact c_57 q; exact c_63 q))
      refine k_iload_n eX12_readsOne_54 rfl ?_
      refine k_bipush (v := nI 33) eX12_readsOne_55 (by decide) ?_
      refine k_icmp_eq 66 eX12_readsOne_57 (by decide) (fun c_57 => ?_) (fun c_57 => ?_)
      · refine k_aload_n eX12_readsOne_66 rfl ?_
        refine GX12_229 eX12_readsOne_67 rfl ?_
        refine k_topi (nI (oc W)) hR.2.1 ?_
        refine k_bipush (v := nI 6) eX12_readsOne_70 (by decide) ?_
        refine k_icmp_neN 77 eX12_readsOne_72 (by decide) (by omega) (by omega) (fun c_72 => ?_) (fun c_72 => ?_)
        · have ho6 : oc W < 6 := by omega
          obtain ⟨g9, hg9⟩ : ∃ g9, f = g9 + 1 := ⟨f - 1, by omega⟩
          obtain ⟨s, hs, hpn1, hcs, hos⟩ := opn_ex (n := n) hc ho6 (by first | exact Or.inl c_51 | exact Or.inr (Or.inl c_57) | exact Or.inr (Or.inr c_63))
          have hP2 : RdP (si (si S 2639 (nI (oc W + 1))) 2638 (nI (p + 1))) t n (p + 1) c (s :: W) dg as m := ⟨hn, by omega, hcs, hrl, by rw [hos]; exact (hR.op (oc W + 1)).pl (p + 1), by omega⟩
          have hF2 : FrP S (si (si S 2639 (nI (oc W + 1))) 2638 (nI (p + 1))) := ((FrP.rf S).si (Or.inr (Or.inl rfl)) _).si (Or.inl rfl) _
          refine k_aload_n eX12_readsOne_77 rfl ?_
          refine k_dup eX12_readsOne_78 rfl ?_
          refine GX12_229 eX12_readsOne_79 rfl ?_
          refine k_topi (nI (oc W)) hR.2.1 ?_
          refine k_iconst (v := nI 1) eX12_readsOne_82 (by decide) ?_
          refine k_iaddN eX12_readsOne_83 ?_
          refine PX12_229 eX12_readsOne_84 rfl ?_
          refine k_aload_n eX12_readsOne_87 rfl ?_
          refine k_dup eX12_readsOne_88 rfl ?_
          refine GX12_206 eX12_readsOne_89 rfl ?_
          refine k_topi (nI p) (hR.op ((oc W) + 1)).1 ?_
          refine k_iconst (v := nI 1) eX12_readsOne_92 (by decide) ?_
          refine k_iaddN eX12_readsOne_93 ?_
          refine PX12_206 eX12_readsOne_94 rfl ?_
          refine k_iload_n eX12_readsOne_97 rfl ?_
          refine k_bipush (v := nI 40) eX12_readsOne_98 (by decide) ?_
          refine k_icmp_ne 110 eX12_readsOne_100 (by decide) (fun c_100 => ?_) (fun c_100 => ?_)
          · refine k_aload_n eX12_readsOne_110 rfl ?_
            have el : lev s = 6 := by
              rcases hs with h | h | h
              · exact absurd h.1 c_100
              · rw [h.2]; decide
              · rw [h.2]; decide
            refine cVB (M' := MX12_readsOne) eX12_readsOne_111 mX12_235 wX12_readsOne vX12_readsOne ⟨_, _, _, rfl, rfl, rfl⟩ rfl ((hI g9 (by omega)).2 (S := (si (si S 2639 (nI (oc W + 1))) 2638 (nI (p + 1)))) (t := t) (n := n) (p := p + 1) (c := c) (W := s :: W) (dg := dg) (as := as) (m := m) hP2 (fun q => absurd q (by decide)) (by omega)) (by omega) (Nat.le_of_ble_eq_true rfl) ?_
            intro g U hQ
            refine k_istore_n (L2 := [_, _, _]) eX12_readsOne_114 (Nat.le_of_ble_eq_true rfl) rfl ?_
            refine k_iload_n eX12_readsOne_115 rfl ?_
            refine k_ifb_eq 158 eX12_readsOne_116 (by decide) (fun c_116 => ?_) (fun c_116 => ?_)
            · refine k_loc (L2 := [_, _, .int (nI 0)]) (by rw [b2i_f c_116] <;> rfl) ?_
              refine k_iload_n eX12_readsOne_158 rfl ?_
              refine k_if_eqN 185 eX12_readsOne_159 (by decide) (by omega) (fun c_159 => ?_) (fun c_159 => by exfalso; omega)
              refine k_aload_n eX12_readsOne_185 rfl ?_
              refine k_dup eX12_readsOne_186 rfl ?_
              refine GX12_229 eX12_readsOne_187 rfl ?_
              refine k_iconst (v := nI 1) eX12_readsOne_190 (by decide) ?_
              refine k_isub eX12_readsOne_191 ?_
              refine PX12_229 eX12_readsOne_192 rfl ?_
              refine k_iload_n eX12_readsOne_195 rfl ?_
              refine k_ireturn eX12_readsOne_196 rfl rfl ?_
              rcases hQ with ⟨hFU, ⟨hg, hT⟩ | ⟨hg, p1, q1, a1, a1n, a2, a3, a4, a5⟩⟩
              · exact absurd hg c_116
              · exact ⟨false, _, rt_f (by decide), rfl, (hF2.tr hFU).si (Or.inr (Or.inl rfl)) _, Or.inr ⟨rfl, p1, q1, by omega, a1n, a2, a3, a4, by omega⟩⟩
            have hT : PsT 6 6 t n (p + 1) (s :: W) as m U := by
              rcases hQ.2 with h | h
              · exact h.2
              · exact absurd c_116 (by rw [h.1]; decide)
            obtain ⟨p1, c1, U1, d1, m1, q1, q2, q3, q4, q5, q6, q7, q8⟩ := hT
            refine k_loc (L2 := [_, _, .int (nI 1)]) (by rw [b2i_t c_116] <;> rfl) ?_
            refine k_iload_n eX12_readsOne_119 rfl ?_
            refine k_bipush (v := nI 40) eX12_readsOne_120 (by decide) ?_
            refine k_icmp_ne 158 eX12_readsOne_122 (by decide) (fun c_122 => ?_) (fun c_122 => by exact absurd c_122 c_100)
            skip
            refine k_iload_n eX12_readsOne_158 rfl ?_
            refine k_if_eqN 185 eX12_readsOne_159 (by decide) (by omega) (fun c_159 => by exfalso; omega) (fun c_159 => ?_)
            refine k_iload_n eX12_readsOne_162 rfl ?_
            refine k_bipush (v := nI 40) eX12_readsOne_163 (by decide) ?_
            refine k_icmp_eq 185 eX12_readsOne_165 (by decide) (fun c_165 => by exact absurd c_165 c_100) (fun c_165 => ?_)
            refine k_aload_n eX12_readsOne_168 rfl ?_
            refine k_iload_n eX12_readsOne_169 rfl ?_
            refine k_bipush (v := nI 33) eX12_readsOne_170 (by decide) ?_
            refine k_icmp_ne 180 eX12_readsOne_172 (by decide) (fun c_172 => ?_) (fun c_172 => ?_)
            · refine k_bipush (v := nI 19) eX12_readsOne_180 (by decide) ?_
              refine cV0 (M' := MX12_emits) eX12_readsOne_182 mX12_219 wX12_emits vX12_emits ⟨_, _, _, rfl, rfl, rfl⟩ rfl (pX12_emits (S := U) (q := m1.length) q6.2.2.1 q6.2.2.2.1 (by omega) (nI 19)) (by omega) (Nat.le_of_ble_eq_true rfl) ?_
              refine k_aload_n eX12_readsOne_185 rfl ?_
              refine k_dup eX12_readsOne_186 rfl ?_
              refine GX12_229 eX12_readsOne_187 rfl ?_
              refine k_iconst (v := nI 1) eX12_readsOne_190 (by decide) ?_
              refine k_isub eX12_readsOne_191 ?_
              refine PX12_229 eX12_readsOne_192 rfl ?_
              refine k_iload_n eX12_readsOne_195 rfl ?_
              refine k_ireturn eX12_readsOne_196 rfl rfl ?_
              have eo : (U.1 2639) - nI 1 = nI (oc W) := by rw [q6.2.1, hos, pk_sub (by omega), Nat.add_sub_cancel]
              have hx : cRl (-s) (nI 19) := by
                rcases hs with h | h | h
                · exact absurd h.1 c_100
                · first
                  | (rw [h.2]; exact Or.inr (Or.inr (Or.inl ⟨rfl, rfl⟩)))
                  | exact absurd h.1 c_172
                · first
                  | (rw [h.2]; exact Or.inr (Or.inr (Or.inr (Or.inl ⟨rfl, rfl⟩))))
                  | (rw [h.1] at c_172; exact absurd c_172 (by decide))
              refine ⟨true, _, rt_t rfl, rfl, ((hF2.tr hQ.1).em _ _).si (Or.inr (Or.inl rfl)) _, Or.inl ⟨rfl, p1, c1, U1 ++ [s], d1, nI 19 :: m1, by omega, q2, by rw [List.append_assoc]; exact q3, ?_, by rw [emA_app]; exact ⟨hx, q5⟩, ?_, by simp only [List.length_cons]; omega, by rw [List.append_assoc]; exact q8⟩⟩
              · intro z hz
                rcases List.mem_append.mp hz with hz | hz
                · exact q4 z hz
                · rw [List.mem_singleton.mp hz]; omega
              · have q9 := (q6.em (nI 19)).op (oc W)
                rw [← eo] at q9
                exact q9
            refine k_bipush (v := nI 13) eX12_readsOne_175 (by decide) ?_
            refine k_goto 182 eX12_readsOne_177 (by decide) ?_
            refine cV0 (M' := MX12_emits) eX12_readsOne_182 mX12_219 wX12_emits vX12_emits ⟨_, _, _, rfl, rfl, rfl⟩ rfl (pX12_emits (S := U) (q := m1.length) q6.2.2.1 q6.2.2.2.1 (by omega) (nI 13)) (by omega) (Nat.le_of_ble_eq_true rfl) ?_
            refine k_aload_n eX12_readsOne_185 rfl ?_
            refine k_dup eX12_readsOne_186 rfl ?_
            refine GX12_229 eX12_readsOne_187 rfl ?_
            refine k_iconst (v := nI 1) eX12_readsOne_190 (by decide) ?_
            refine k_isub eX12_readsOne_191 ?_
            refine PX12_229 eX12_readsOne_192 rfl ?_
            refine k_iload_n eX12_readsOne_195 rfl ?_
            refine k_ireturn eX12_readsOne_196 rfl rfl ?_
            have eo : (U.1 2639) - nI 1 = nI (oc W) := by rw [q6.2.1, hos, pk_sub (by omega), Nat.add_sub_cancel]
            have hx : cRl (-s) (nI 13) := by
              rcases hs with h | h | h
              · exact absurd h.1 c_100
              · first
                | (rw [h.2]; exact Or.inr (Or.inr (Or.inl ⟨rfl, rfl⟩)))
                | exact absurd h.1 c_172
              · first
                | (rw [h.2]; exact Or.inr (Or.inr (Or.inr (Or.inl ⟨rfl, rfl⟩))))
                | (rw [h.1] at c_172; exact absurd c_172 (by decide))
            refine ⟨true, _, rt_t rfl, rfl, ((hF2.tr hQ.1).em _ _).si (Or.inr (Or.inl rfl)) _, Or.inl ⟨rfl, p1, c1, U1 ++ [s], d1, nI 13 :: m1, by omega, q2, by rw [List.append_assoc]; exact q3, ?_, by rw [emA_app]; exact ⟨hx, q5⟩, ?_, by simp only [List.length_cons]; omega, by rw [List.append_assoc]; exact q8⟩⟩
            · intro z hz
              rcases List.mem_append.mp hz with hz | hz
              · exact q4 z hz
              · rw [List.mem_singleton.mp hz]; omega
            · have q9 := (q6.em (nI 13)).op (oc W)
              rw [← eo] at q9
              exact q9
          refine k_aload_n eX12_readsOne_103 rfl ?_
          have es : s = nI 40 := by
            rcases hs with h | h | h
            · exact h.2
            · rw [h.1] at c_100; exact absurd c_100 (by decide)
            · rw [h.1] at c_100; exact absurd c_100 (by decide)
          refine k_loc (L2 := [_, .int (nI 40), _]) (by rw [c_100] <;> rfl) ?_
          refine cVB (M' := MX12_readsAll) eX12_readsOne_104 mX12_232 wX12_readsAll vX12_readsAll ⟨_, _, _, rfl, rfl, rfl⟩ rfl ((hI g9 (by omega)).1 (S := (si (si S 2639 (nI (oc W + 1))) 2638 (nI (p + 1)))) (t := t) (n := n) (p := p + 1) (c := c) (W := s :: W) (dg := dg) (as := as) (m := m) hP2 (fun _ => by rw [show s = nI 40 from es]; show lev (nI 40) < 1; decide) (by omega)) (by omega) (Nat.le_of_ble_eq_true rfl) ?_
          intro g U hQ
          refine k_goto 114 eX12_readsOne_107 (by decide) ?_
          refine k_istore_n (L2 := [_, _, _]) eX12_readsOne_114 (Nat.le_of_ble_eq_true rfl) rfl ?_
          refine k_iload_n eX12_readsOne_115 rfl ?_
          refine k_ifb_eq 158 eX12_readsOne_116 (by decide) (fun c_116 => ?_) (fun c_116 => ?_)
          · refine k_loc (L2 := [_, _, .int (nI 0)]) (by rw [b2i_f c_116] <;> rfl) ?_
            refine k_iload_n eX12_readsOne_158 rfl ?_
            refine k_if_eqN 185 eX12_readsOne_159 (by decide) (by omega) (fun c_159 => ?_) (fun c_159 => by exfalso; omega)
            refine k_aload_n eX12_readsOne_185 rfl ?_
            refine k_dup eX12_readsOne_186 rfl ?_
            refine GX12_229 eX12_readsOne_187 rfl ?_
            refine k_iconst (v := nI 1) eX12_readsOne_190 (by decide) ?_
            refine k_isub eX12_readsOne_191 ?_
            refine PX12_229 eX12_readsOne_192 rfl ?_
            refine k_iload_n eX12_readsOne_195 rfl ?_
            refine k_ireturn eX12_readsOne_196 rfl rfl ?_
            rcases hQ with ⟨hFU, ⟨hg, hT⟩ | ⟨hg, p1, q1, a1, a1n, a2, a3, a4, a5⟩⟩
            · exact absurd hg c_116
            · exact ⟨false, _, rt_f (by decide), rfl, (hF2.tr hFU).si (Or.inr (Or.inl rfl)) _, Or.inr ⟨rfl, p1, q1, by omega, a1n, a2, a3, a4, by omega⟩⟩
          have hT : PsT 1 1 t n (p + 1) (s :: W) as m U := by
            rcases hQ.2 with h | h
            · exact h.2
            · exact absurd c_116 (by rw [h.1]; decide)
          obtain ⟨p1, c1, U1, d1, m1, q1, q2, q3, q4, q5, q6, q7, q8⟩ := hT
          refine k_loc (L2 := [_, _, .int (nI 1)]) (by rw [b2i_t c_116] <;> rfl) ?_
          refine k_iload_n eX12_readsOne_119 rfl ?_
          refine k_bipush (v := nI 40) eX12_readsOne_120 (by decide) ?_
          refine k_icmp_neN 158 eX12_readsOne_122 (by decide) (by omega) (by omega) (fun c_122 => by exfalso; omega) (fun c_122 => ?_)
          refine k_aload_n eX12_readsOne_125 rfl ?_
          refine cV1 (M' := MX12_here) eX12_readsOne_126 mX12_215 wX12_here vX12_here ⟨_, _, _, rfl, rfl, rfl⟩ rfl (pX12_here (S := U) q6 hn (by omega)) (by omega) (Nat.le_of_ble_eq_true rfl) ?_
          refine k_bipush (v := nI 41) eX12_readsOne_129 (by decide) ?_
          refine k_icmp_ne 138 eX12_readsOne_131 (by decide) (fun c_131 => ?_) (fun c_131 => ?_)
          · refine k_iconst (v := nI 0) eX12_readsOne_138 (by decide) ?_
            refine k_istore_n (L2 := [_, _, _]) eX12_readsOne_139 (Nat.le_of_ble_eq_true rfl) rfl ?_
            refine k_aload_n eX12_readsOne_140 rfl ?_
            refine k_dup eX12_readsOne_141 rfl ?_
            refine GX12_206 eX12_readsOne_142 rfl ?_
            refine k_topi (nI p1) q6.1 ?_
            refine k_iload_n eX12_readsOne_145 rfl ?_
            refine k_if_eqN 153 eX12_readsOne_146 (by decide) (by omega) (fun c_146 => ?_) (fun c_146 => by exfalso; omega)
            refine k_iconst (v := nI 0) eX12_readsOne_153 (by decide) ?_
            refine k_iaddN eX12_readsOne_154 ?_
            refine PX12_206 eX12_readsOne_155 rfl ?_
            skip
            refine k_iload_n eX12_readsOne_158 rfl ?_
            refine k_if_eqN 185 eX12_readsOne_159 (by decide) (by omega) (fun c_159 => ?_) (fun c_159 => by exfalso; omega)
            refine k_aload_n eX12_readsOne_185 rfl ?_
            refine k_dup eX12_readsOne_186 rfl ?_
            refine GX12_229 eX12_readsOne_187 rfl ?_
            refine k_iconst (v := nI 1) eX12_readsOne_190 (by decide) ?_
            refine k_isub eX12_readsOne_191 ?_
            refine PX12_229 eX12_readsOne_192 rfl ?_
            refine k_iload_n eX12_readsOne_195 rfl ?_
            refine k_ireturn eX12_readsOne_196 rfl rfl ?_
            refine ⟨false, _, rt_f (by decide), rfl, ((hF2.tr hQ.1).si (Or.inl rfl) _).si (Or.inr (Or.inl rfl)) _, Or.inr ⟨rfl, p1, m1.length, by omega, q2, ?_, rfl, q6.2.2.2.1, by omega⟩⟩
            rw [es] at q3 q8
            by_cases hp : p1 < n
            · refine Or.inl ⟨hp, _, q3, ?_⟩
              rw [hr_p hp] at c_131
              exact go_none q4 (show lev (nI 40) < 1 by decide) (fun q => c_131 q.1) (fun q => by cases q.2) (fun q => by cases q.2.2) (q8 hp).2 (q8 hp).1
            · have e : p1 = n := by omega
              subst e
              refine Or.inr ⟨rfl, _, q3, fun z => ?_⟩
              have z2 := z.2
              rw [ew_emA (show lev (hdI (nI 40 :: W)) < 1 from by show lev (nI 40) < 1; decide) U1 c1 q4] at z2
              cases z2
          refine k_iconst (v := nI 1) eX12_readsOne_134 (by decide) ?_
          refine k_goto 139 eX12_readsOne_135 (by decide) ?_
          refine k_istore_n (L2 := [_, _, _]) eX12_readsOne_139 (Nat.le_of_ble_eq_true rfl) rfl ?_
          refine k_aload_n eX12_readsOne_140 rfl ?_
          refine k_dup eX12_readsOne_141 rfl ?_
          refine GX12_206 eX12_readsOne_142 rfl ?_
          refine k_topi (nI p1) q6.1 ?_
          refine k_iload_n eX12_readsOne_145 rfl ?_
          refine k_if_eqN 153 eX12_readsOne_146 (by decide) (by omega) (fun c_146 => by exfalso; omega) (fun c_146 => ?_)
          refine k_iconst (v := nI 1) eX12_readsOne_149 (by decide) ?_
          refine k_goto 154 eX12_readsOne_150 (by decide) ?_
          refine k_iaddN eX12_readsOne_154 ?_
          refine PX12_206 eX12_readsOne_155 rfl ?_
          skip
          refine k_iload_n eX12_readsOne_158 rfl ?_
          refine k_if_eqN 185 eX12_readsOne_159 (by decide) (by omega) (fun c_159 => by exfalso; omega) (fun c_159 => ?_)
          refine k_iload_n eX12_readsOne_162 rfl ?_
          refine k_bipush (v := nI 40) eX12_readsOne_163 (by decide) ?_
          refine k_icmp_eqN 185 eX12_readsOne_165 (by decide) (by omega) (by omega) (fun c_165 => ?_) (fun c_165 => by exfalso; omega)
          refine k_aload_n eX12_readsOne_185 rfl ?_
          refine k_dup eX12_readsOne_186 rfl ?_
          refine GX12_229 eX12_readsOne_187 rfl ?_
          refine k_iconst (v := nI 1) eX12_readsOne_190 (by decide) ?_
          refine k_isub eX12_readsOne_191 ?_
          refine PX12_229 eX12_readsOne_192 rfl ?_
          refine k_iload_n eX12_readsOne_195 rfl ?_
          refine k_ireturn eX12_readsOne_196 rfl rfl ?_
          have eo : (U.1 2639) - nI 1 = nI (oc W) := by rw [q6.2.1, hos, pk_sub (by omega), Nat.add_sub_cancel]
          obtain ⟨hb1, hb2⟩ := hr_in c_131 (by decide)
          rw [es] at q3
          have hcn := crn_s q3 (by rw [hb2]; exact cl_st q4)
          refine ⟨true, _, rt_t rfl, rfl, ((hF2.tr hQ.1).si (Or.inl rfl) _).si (Or.inr (Or.inl rfl)) _, Or.inl ⟨rfl, p1 + 1, emA U1 c1, [], 0, m1, by omega, by omega, hcn, (fun s hs => by cases hs), q5, ?_, by omega, fun hp => ⟨fun q1 q2 => absurd q1 (by omega), fun q => Or.inl (by decide)⟩⟩⟩
          have q9 := (q6.pl (p1 + 1)).op (oc W)
          rw [← eo] at q9
          exact q9
        refine k_iconst (v := nI 0) eX12_readsOne_75 (by decide) ?_
        refine k_ireturn eX12_readsOne_76 rfl rfl ?_
        refine ⟨false, S, rt_f (by decide), rfl, FrP.rf S, Or.inr ⟨rfl, p, m.length, Nat.le_refl _, hpn, flt_wt hc hpn (fun hp => ?_), hR.1, hR.2.2.2.1, Nat.le_refl _⟩⟩
        rw [hr_p hp] at c_13 c_25
        refine wt_none c_13 (Int32.not_le.mpr c_25) ?_
        first
        | exact Or.inr (by omega)
        | (rw [hr_p hp] at c_51 c_57 c_63; exact Or.inl (fun q => by rcases q with q | q | q; exact c_51 q; exact c_57 q; exact c_63 q))
      refine k_iload_n eX12_readsOne_60 rfl ?_
      refine k_bipush (v := nI 45) eX12_readsOne_61 (by decide) ?_
      refine k_icmp_ne 75 eX12_readsOne_63 (by decide) (fun c_63 => ?_) (fun c_63 => ?_)
      · refine k_iconst (v := nI 0) eX12_readsOne_75 (by decide) ?_
        refine k_ireturn eX12_readsOne_76 rfl rfl ?_
        refine ⟨false, S, rt_f (by decide), rfl, FrP.rf S, Or.inr ⟨rfl, p, m.length, Nat.le_refl _, hpn, flt_wt hc hpn (fun hp => ?_), hR.1, hR.2.2.2.1, Nat.le_refl _⟩⟩
        rw [hr_p hp] at c_13 c_25
        refine wt_none c_13 (Int32.not_le.mpr c_25) ?_
        first
        | exact Or.inr (by omega)
        | (rw [hr_p hp] at c_51 c_57 c_63; exact Or.inl (fun q => by rcases q with q | q | q; exact c_51 q; exact c_57 q; exact c_63 q))
      refine k_aload_n eX12_readsOne_66 rfl ?_
      refine GX12_229 eX12_readsOne_67 rfl ?_
      refine k_topi (nI (oc W)) hR.2.1 ?_
      refine k_bipush (v := nI 6) eX12_readsOne_70 (by decide) ?_
      refine k_icmp_neN 77 eX12_readsOne_72 (by decide) (by omega) (by omega) (fun c_72 => ?_) (fun c_72 => ?_)
      · have ho6 : oc W < 6 := by omega
        obtain ⟨g9, hg9⟩ : ∃ g9, f = g9 + 1 := ⟨f - 1, by omega⟩
        obtain ⟨s, hs, hpn1, hcs, hos⟩ := opn_ex (n := n) hc ho6 (by first | exact Or.inl c_51 | exact Or.inr (Or.inl c_57) | exact Or.inr (Or.inr c_63))
        have hP2 : RdP (si (si S 2639 (nI (oc W + 1))) 2638 (nI (p + 1))) t n (p + 1) c (s :: W) dg as m := ⟨hn, by omega, hcs, hrl, by rw [hos]; exact (hR.op (oc W + 1)).pl (p + 1), by omega⟩
        have hF2 : FrP S (si (si S 2639 (nI (oc W + 1))) 2638 (nI (p + 1))) := ((FrP.rf S).si (Or.inr (Or.inl rfl)) _).si (Or.inl rfl) _
        refine k_aload_n eX12_readsOne_77 rfl ?_
        refine k_dup eX12_readsOne_78 rfl ?_
        refine GX12_229 eX12_readsOne_79 rfl ?_
        refine k_topi (nI (oc W)) hR.2.1 ?_
        refine k_iconst (v := nI 1) eX12_readsOne_82 (by decide) ?_
        refine k_iaddN eX12_readsOne_83 ?_
        refine PX12_229 eX12_readsOne_84 rfl ?_
        refine k_aload_n eX12_readsOne_87 rfl ?_
        refine k_dup eX12_readsOne_88 rfl ?_
        refine GX12_206 eX12_readsOne_89 rfl ?_
        refine k_topi (nI p) (hR.op ((oc W) + 1)).1 ?_
        refine k_iconst (v := nI 1) eX12_readsOne_92 (by decide) ?_
        refine k_iaddN eX12_readsOne_93 ?_
        refine PX12_206 eX12_readsOne_94 rfl ?_
        refine k_iload_n eX12_readsOne_97 rfl ?_
        refine k_bipush (v := nI 40) eX12_readsOne_98 (by decide) ?_
        refine k_icmp_ne 110 eX12_readsOne_100 (by decide) (fun c_100 => ?_) (fun c_100 => ?_)
        · refine k_aload_n eX12_readsOne_110 rfl ?_
          have el : lev s = 6 := by
            rcases hs with h | h | h
            · exact absurd h.1 c_100
            · rw [h.2]; decide
            · rw [h.2]; decide
          refine cVB (M' := MX12_readsOne) eX12_readsOne_111 mX12_235 wX12_readsOne vX12_readsOne ⟨_, _, _, rfl, rfl, rfl⟩ rfl ((hI g9 (by omega)).2 (S := (si (si S 2639 (nI (oc W + 1))) 2638 (nI (p + 1)))) (t := t) (n := n) (p := p + 1) (c := c) (W := s :: W) (dg := dg) (as := as) (m := m) hP2 (fun q => absurd q (by decide)) (by omega)) (by omega) (Nat.le_of_ble_eq_true rfl) ?_
          intro g U hQ
          refine k_istore_n (L2 := [_, _, _]) eX12_readsOne_114 (Nat.le_of_ble_eq_true rfl) rfl ?_
          refine k_iload_n eX12_readsOne_115 rfl ?_
          refine k_ifb_eq 158 eX12_readsOne_116 (by decide) (fun c_116 => ?_) (fun c_116 => ?_)
          · refine k_loc (L2 := [_, _, .int (nI 0)]) (by rw [b2i_f c_116] <;> rfl) ?_
            refine k_iload_n eX12_readsOne_158 rfl ?_
            refine k_if_eqN 185 eX12_readsOne_159 (by decide) (by omega) (fun c_159 => ?_) (fun c_159 => by exfalso; omega)
            refine k_aload_n eX12_readsOne_185 rfl ?_
            refine k_dup eX12_readsOne_186 rfl ?_
            refine GX12_229 eX12_readsOne_187 rfl ?_
            refine k_iconst (v := nI 1) eX12_readsOne_190 (by decide) ?_
            refine k_isub eX12_readsOne_191 ?_
            refine PX12_229 eX12_readsOne_192 rfl ?_
            refine k_iload_n eX12_readsOne_195 rfl ?_
            refine k_ireturn eX12_readsOne_196 rfl rfl ?_
            rcases hQ with ⟨hFU, ⟨hg, hT⟩ | ⟨hg, p1, q1, a1, a1n, a2, a3, a4, a5⟩⟩
            · exact absurd hg c_116
            · exact ⟨false, _, rt_f (by decide), rfl, (hF2.tr hFU).si (Or.inr (Or.inl rfl)) _, Or.inr ⟨rfl, p1, q1, by omega, a1n, a2, a3, a4, by omega⟩⟩
          have hT : PsT 6 6 t n (p + 1) (s :: W) as m U := by
            rcases hQ.2 with h | h
            · exact h.2
            · exact absurd c_116 (by rw [h.1]; decide)
          obtain ⟨p1, c1, U1, d1, m1, q1, q2, q3, q4, q5, q6, q7, q8⟩ := hT
          refine k_loc (L2 := [_, _, .int (nI 1)]) (by rw [b2i_t c_116] <;> rfl) ?_
          refine k_iload_n eX12_readsOne_119 rfl ?_
          refine k_bipush (v := nI 40) eX12_readsOne_120 (by decide) ?_
          refine k_icmp_ne 158 eX12_readsOne_122 (by decide) (fun c_122 => ?_) (fun c_122 => by exact absurd c_122 c_100)
          skip
          refine k_iload_n eX12_readsOne_158 rfl ?_
          refine k_if_eqN 185 eX12_readsOne_159 (by decide) (by omega) (fun c_159 => by exfalso; omega) (fun c_159 => ?_)
          refine k_iload_n eX12_readsOne_162 rfl ?_
          refine k_bipush (v := nI 40) eX12_readsOne_163 (by decide) ?_
          refine k_icmp_eq 185 eX12_readsOne_165 (by decide) (fun c_165 => by exact absurd c_165 c_100) (fun c_165 => ?_)
          refine k_aload_n eX12_readsOne_168 rfl ?_
          refine k_iload_n eX12_readsOne_169 rfl ?_
          refine k_bipush (v := nI 33) eX12_readsOne_170 (by decide) ?_
          refine k_icmp_ne 180 eX12_readsOne_172 (by decide) (fun c_172 => ?_) (fun c_172 => ?_)
          · refine k_bipush (v := nI 19) eX12_readsOne_180 (by decide) ?_
            refine cV0 (M' := MX12_emits) eX12_readsOne_182 mX12_219 wX12_emits vX12_emits ⟨_, _, _, rfl, rfl, rfl⟩ rfl (pX12_emits (S := U) (q := m1.length) q6.2.2.1 q6.2.2.2.1 (by omega) (nI 19)) (by omega) (Nat.le_of_ble_eq_true rfl) ?_
            refine k_aload_n eX12_readsOne_185 rfl ?_
            refine k_dup eX12_readsOne_186 rfl ?_
            refine GX12_229 eX12_readsOne_187 rfl ?_
            refine k_iconst (v := nI 1) eX12_readsOne_190 (by decide) ?_
            refine k_isub eX12_readsOne_191 ?_
            refine PX12_229 eX12_readsOne_192 rfl ?_
            refine k_iload_n eX12_readsOne_195 rfl ?_
            refine k_ireturn eX12_readsOne_196 rfl rfl ?_
            have eo : (U.1 2639) - nI 1 = nI (oc W) := by rw [q6.2.1, hos, pk_sub (by omega), Nat.add_sub_cancel]
            have hx : cRl (-s) (nI 19) := by
              rcases hs with h | h | h
              · exact absurd h.1 c_100
              · first
                | (rw [h.2]; exact Or.inr (Or.inr (Or.inl ⟨rfl, rfl⟩)))
                | exact absurd h.1 c_172
              · first
                | (rw [h.2]; exact Or.inr (Or.inr (Or.inr (Or.inl ⟨rfl, rfl⟩))))
                | (rw [h.1] at c_172; exact absurd c_172 (by decide))
            refine ⟨true, _, rt_t rfl, rfl, ((hF2.tr hQ.1).em _ _).si (Or.inr (Or.inl rfl)) _, Or.inl ⟨rfl, p1, c1, U1 ++ [s], d1, nI 19 :: m1, by omega, q2, by rw [List.append_assoc]; exact q3, ?_, by rw [emA_app]; exact ⟨hx, q5⟩, ?_, by simp only [List.length_cons]; omega, by rw [List.append_assoc]; exact q8⟩⟩
            · intro z hz
              rcases List.mem_append.mp hz with hz | hz
              · exact q4 z hz
              · rw [List.mem_singleton.mp hz]; omega
            · have q9 := (q6.em (nI 19)).op (oc W)
              rw [← eo] at q9
              exact q9
          refine k_bipush (v := nI 13) eX12_readsOne_175 (by decide) ?_
          refine k_goto 182 eX12_readsOne_177 (by decide) ?_
          refine cV0 (M' := MX12_emits) eX12_readsOne_182 mX12_219 wX12_emits vX12_emits ⟨_, _, _, rfl, rfl, rfl⟩ rfl (pX12_emits (S := U) (q := m1.length) q6.2.2.1 q6.2.2.2.1 (by omega) (nI 13)) (by omega) (Nat.le_of_ble_eq_true rfl) ?_
          refine k_aload_n eX12_readsOne_185 rfl ?_
          refine k_dup eX12_readsOne_186 rfl ?_
          refine GX12_229 eX12_readsOne_187 rfl ?_
          refine k_iconst (v := nI 1) eX12_readsOne_190 (by decide) ?_
          refine k_isub eX12_readsOne_191 ?_
          refine PX12_229 eX12_readsOne_192 rfl ?_
          refine k_iload_n eX12_readsOne_195 rfl ?_
          refine k_ireturn eX12_readsOne_196 rfl rfl ?_
          have eo : (U.1 2639) - nI 1 = nI (oc W) := by rw [q6.2.1, hos, pk_sub (by omega), Nat.add_sub_cancel]
          have hx : cRl (-s) (nI 13) := by
            rcases hs with h | h | h
            · exact absurd h.1 c_100
            · first
              | (rw [h.2]; exact Or.inr (Or.inr (Or.inl ⟨rfl, rfl⟩)))
              | exact absurd h.1 c_172
            · first
              | (rw [h.2]; exact Or.inr (Or.inr (Or.inr (Or.inl ⟨rfl, rfl⟩))))
              | (rw [h.1] at c_172; exact absurd c_172 (by decide))
          refine ⟨true, _, rt_t rfl, rfl, ((hF2.tr hQ.1).em _ _).si (Or.inr (Or.inl rfl)) _, Or.inl ⟨rfl, p1, c1, U1 ++ [s], d1, nI 13 :: m1, by omega, q2, by rw [List.append_assoc]; exact q3, ?_, by rw [emA_app]; exact ⟨hx, q5⟩, ?_, by simp only [List.length_cons]; omega, by rw [List.append_assoc]; exact q8⟩⟩
          · intro z hz
            rcases List.mem_append.mp hz with hz | hz
            · exact q4 z hz
            · rw [List.mem_singleton.mp hz]; omega
          · have q9 := (q6.em (nI 13)).op (oc W)
            rw [← eo] at q9
            exact q9
        refine k_aload_n eX12_readsOne_103 rfl ?_
        have es : s = nI 40 := by
          rcases hs with h | h | h
          · exact h.2
          · rw [h.1] at c_100; exact absurd c_100 (by decide)
          · rw [h.1] at c_100; exact absurd c_100 (by decide)
        refine k_loc (L2 := [_, .int (nI 40), _]) (by rw [c_100] <;> rfl) ?_
        refine cVB (M' := MX12_readsAll) eX12_readsOne_104 mX12_232 wX12_readsAll vX12_readsAll ⟨_, _, _, rfl, rfl, rfl⟩ rfl ((hI g9 (by omega)).1 (S := (si (si S 2639 (nI (oc W + 1))) 2638 (nI (p + 1)))) (t := t) (n := n) (p := p + 1) (c := c) (W := s :: W) (dg := dg) (as := as) (m := m) hP2 (fun _ => by rw [show s = nI 40 from es]; show lev (nI 40) < 1; decide) (by omega)) (by omega) (Nat.le_of_ble_eq_true rfl) ?_
        intro g U hQ
        refine k_goto 114 eX12_readsOne_107 (by decide) ?_
        refine k_istore_n (L2 := [_, _, _]) eX12_readsOne_114 (Nat.le_of_ble_eq_true rfl) rfl ?_
        refine k_iload_n eX12_readsOne_115 rfl ?_
        refine k_ifb_eq 158 eX12_readsOne_116 (by decide) (fun c_116 => ?_) (fun c_116 => ?_)
        · refine k_loc (L2 := [_, _, .int (nI 0)]) (by rw [b2i_f c_116] <;> rfl) ?_
          refine k_iload_n eX12_readsOne_158 rfl ?_
          refine k_if_eqN 185 eX12_readsOne_159 (by decide) (by omega) (fun c_159 => ?_) (fun c_159 => by exfalso; omega)
          refine k_aload_n eX12_readsOne_185 rfl ?_
          refine k_dup eX12_readsOne_186 rfl ?_
          refine GX12_229 eX12_readsOne_187 rfl ?_
          refine k_iconst (v := nI 1) eX12_readsOne_190 (by decide) ?_
          refine k_isub eX12_readsOne_191 ?_
          refine PX12_229 eX12_readsOne_192 rfl ?_
          refine k_iload_n eX12_readsOne_195 rfl ?_
          refine k_ireturn eX12_readsOne_196 rfl rfl ?_
          rcases hQ with ⟨hFU, ⟨hg, hT⟩ | ⟨hg, p1, q1, a1, a1n, a2, a3, a4, a5⟩⟩
          · exact absurd hg c_116
          · exact ⟨false, _, rt_f (by decide), rfl, (hF2.tr hFU).si (Or.inr (Or.inl rfl)) _, Or.inr ⟨rfl, p1, q1, by omega, a1n, a2, a3, a4, by omega⟩⟩
        have hT : PsT 1 1 t n (p + 1) (s :: W) as m U := by
          rcases hQ.2 with h | h
          · exact h.2
          · exact absurd c_116 (by rw [h.1]; decide)
        obtain ⟨p1, c1, U1, d1, m1, q1, q2, q3, q4, q5, q6, q7, q8⟩ := hT
        refine k_loc (L2 := [_, _, .int (nI 1)]) (by rw [b2i_t c_116] <;> rfl) ?_
        refine k_iload_n eX12_readsOne_119 rfl ?_
        refine k_bipush (v := nI 40) eX12_readsOne_120 (by decide) ?_
        refine k_icmp_neN 158 eX12_readsOne_122 (by decide) (by omega) (by omega) (fun c_122 => by exfalso; omega) (fun c_122 => ?_)
        refine k_aload_n eX12_readsOne_125 rfl ?_
        refine cV1 (M' := MX12_here) eX12_readsOne_126 mX12_215 wX12_here vX12_here ⟨_, _, _, rfl, rfl, rfl⟩ rfl (pX12_here (S := U) q6 hn (by omega)) (by omega) (Nat.le_of_ble_eq_true rfl) ?_
        refine k_bipush (v := nI 41) eX12_readsOne_129 (by decide) ?_
        refine k_icmp_ne 138 eX12_readsOne_131 (by decide) (fun c_131 => ?_) (fun c_131 => ?_)
        · refine k_iconst (v := nI 0) eX12_readsOne_138 (by decide) ?_
          refine k_istore_n (L2 := [_, _, _]) eX12_readsOne_139 (Nat.le_of_ble_eq_true rfl) rfl ?_
          refine k_aload_n eX12_readsOne_140 rfl ?_
          refine k_dup eX12_readsOne_141 rfl ?_
          refine GX12_206 eX12_readsOne_142 rfl ?_
          refine k_topi (nI p1) q6.1 ?_
          refine k_iload_n eX12_readsOne_145 rfl ?_
          refine k_if_eqN 153 eX12_readsOne_146 (by decide) (by omega) (fun c_146 => ?_) (fun c_146 => by exfalso; omega)
          refine k_iconst (v := nI 0) eX12_readsOne_153 (by decide) ?_
          refine k_iaddN eX12_readsOne_154 ?_
          refine PX12_206 eX12_readsOne_155 rfl ?_
          skip
          refine k_iload_n eX12_readsOne_158 rfl ?_
          refine k_if_eqN 185 eX12_readsOne_159 (by decide) (by omega) (fun c_159 => ?_) (fun c_159 => by exfalso; omega)
          refine k_aload_n eX12_readsOne_185 rfl ?_
          refine k_dup eX12_readsOne_186 rfl ?_
          refine GX12_229 eX12_readsOne_187 rfl ?_
          refine k_iconst (v := nI 1) eX12_readsOne_190 (by decide) ?_
          refine k_isub eX12_readsOne_191 ?_
          refine PX12_229 eX12_readsOne_192 rfl ?_
          refine k_iload_n eX12_readsOne_195 rfl ?_
          refine k_ireturn eX12_readsOne_196 rfl rfl ?_
          refine ⟨false, _, rt_f (by decide), rfl, ((hF2.tr hQ.1).si (Or.inl rfl) _).si (Or.inr (Or.inl rfl)) _, Or.inr ⟨rfl, p1, m1.length, by omega, q2, ?_, rfl, q6.2.2.2.1, by omega⟩⟩
          rw [es] at q3 q8
          by_cases hp : p1 < n
          · refine Or.inl ⟨hp, _, q3, ?_⟩
            rw [hr_p hp] at c_131
            exact go_none q4 (show lev (nI 40) < 1 by decide) (fun q => c_131 q.1) (fun q => by cases q.2) (fun q => by cases q.2.2) (q8 hp).2 (q8 hp).1
          · have e : p1 = n := by omega
            subst e
            refine Or.inr ⟨rfl, _, q3, fun z => ?_⟩
            have z2 := z.2
            rw [ew_emA (show lev (hdI (nI 40 :: W)) < 1 from by show lev (nI 40) < 1; decide) U1 c1 q4] at z2
            cases z2
        refine k_iconst (v := nI 1) eX12_readsOne_134 (by decide) ?_
        refine k_goto 139 eX12_readsOne_135 (by decide) ?_
        refine k_istore_n (L2 := [_, _, _]) eX12_readsOne_139 (Nat.le_of_ble_eq_true rfl) rfl ?_
        refine k_aload_n eX12_readsOne_140 rfl ?_
        refine k_dup eX12_readsOne_141 rfl ?_
        refine GX12_206 eX12_readsOne_142 rfl ?_
        refine k_topi (nI p1) q6.1 ?_
        refine k_iload_n eX12_readsOne_145 rfl ?_
        refine k_if_eqN 153 eX12_readsOne_146 (by decide) (by omega) (fun c_146 => by exfalso; omega) (fun c_146 => ?_)
        refine k_iconst (v := nI 1) eX12_readsOne_149 (by decide) ?_
        refine k_goto 154 eX12_readsOne_150 (by decide) ?_
        refine k_iaddN eX12_readsOne_154 ?_
        refine PX12_206 eX12_readsOne_155 rfl ?_
        skip
        refine k_iload_n eX12_readsOne_158 rfl ?_
        refine k_if_eqN 185 eX12_readsOne_159 (by decide) (by omega) (fun c_159 => by exfalso; omega) (fun c_159 => ?_)
        refine k_iload_n eX12_readsOne_162 rfl ?_
        refine k_bipush (v := nI 40) eX12_readsOne_163 (by decide) ?_
        refine k_icmp_eqN 185 eX12_readsOne_165 (by decide) (by omega) (by omega) (fun c_165 => ?_) (fun c_165 => by exfalso; omega)
        refine k_aload_n eX12_readsOne_185 rfl ?_
        refine k_dup eX12_readsOne_186 rfl ?_
        refine GX12_229 eX12_readsOne_187 rfl ?_
        refine k_iconst (v := nI 1) eX12_readsOne_190 (by decide) ?_
        refine k_isub eX12_readsOne_191 ?_
        refine PX12_229 eX12_readsOne_192 rfl ?_
        refine k_iload_n eX12_readsOne_195 rfl ?_
        refine k_ireturn eX12_readsOne_196 rfl rfl ?_
        have eo : (U.1 2639) - nI 1 = nI (oc W) := by rw [q6.2.1, hos, pk_sub (by omega), Nat.add_sub_cancel]
        obtain ⟨hb1, hb2⟩ := hr_in c_131 (by decide)
        rw [es] at q3
        have hcn := crn_s q3 (by rw [hb2]; exact cl_st q4)
        refine ⟨true, _, rt_t rfl, rfl, ((hF2.tr hQ.1).si (Or.inl rfl) _).si (Or.inr (Or.inl rfl)) _, Or.inl ⟨rfl, p1 + 1, emA U1 c1, [], 0, m1, by omega, by omega, hcn, (fun s hs => by cases hs), q5, ?_, by omega, fun hp => ⟨fun q1 q2 => absurd q1 (by omega), fun q => Or.inl (by decide)⟩⟩⟩
        have q9 := (q6.pl (p1 + 1)).op (oc W)
        rw [← eo] at q9
        exact q9
      refine k_iconst (v := nI 0) eX12_readsOne_75 (by decide) ?_
      refine k_ireturn eX12_readsOne_76 rfl rfl ?_
      refine ⟨false, S, rt_f (by decide), rfl, FrP.rf S, Or.inr ⟨rfl, p, m.length, Nat.le_refl _, hpn, flt_wt hc hpn (fun hp => ?_), hR.1, hR.2.2.2.1, Nat.le_refl _⟩⟩
      rw [hr_p hp] at c_13 c_25
      refine wt_none c_13 (Int32.not_le.mpr c_25) ?_
      first
      | exact Or.inr (by omega)
      | (rw [hr_p hp] at c_51 c_57 c_63; exact Or.inl (fun q => by rcases q with q | q | q; exact c_51 q; exact c_57 q; exact c_63 q))
    refine k_aload_n eX12_readsOne_28 rfl ?_
    refine k_iload_n eX12_readsOne_29 rfl ?_
    refine cS1 (M' := MX12_nameOf) eX12_readsOne_30 mX12_226 wX12_nameOf sX12_nameOf rfl (pX12_nameOf ((hrV t n p))) (by omega) (Nat.le_of_ble_eq_true rfl) ?_
    refine cV0 (M' := MX12_emits) eX12_readsOne_33 mX12_219 wX12_emits vX12_emits ⟨_, _, _, rfl, rfl, rfl⟩ rfl (pX12_emits (S := S) (q := m.length) hR.2.2.1 hR.2.2.2.1 (by omega) ((nam ((hrV t n p))))) (by omega) (Nat.le_of_ble_eq_true rfl) ?_
    refine k_aload_n eX12_readsOne_36 rfl ?_
    refine k_dup eX12_readsOne_37 rfl ?_
    refine GX12_206 eX12_readsOne_38 rfl ?_
    refine k_topi (nI p) (hR.em ((nam ((hrV t n p))))).1 ?_
    refine k_iconst (v := nI 1) eX12_readsOne_41 (by decide) ?_
    refine k_iaddN eX12_readsOne_42 ?_
    refine PX12_206 eX12_readsOne_43 rfl ?_
    refine k_iconst (v := nI 1) eX12_readsOne_46 (by decide) ?_
    refine k_ireturn eX12_readsOne_47 rfl rfl ?_
    have hna : 0 ≤ nam (hrV t n p) := Int32.not_lt.mp c_25
    obtain ⟨k9, hk9, ek9⟩ := nam_kx hna
    have hpp := nam_pos hna
    have hpn1 : p < n := by
      by_cases z : p < n
      · exact z
      · rw [hrV, if_neg z] at hna; exact absurd hna (by decide)
    have eb : hrV t n p = t p := hr_p hpn1
    rw [eb] at c_13 hna ek9 hpp
    refine ⟨true, _, rt_t rfl, rfl, ((FrP.rf S).em _ _).si (Or.inl rfl) _, Or.inl ⟨rfl, p + 1, -(t p) :: c, [], 0, nam (hrV t n p) :: m, by omega, by omega, crn_s hc (nm_b c_13 hna), (fun s hs => by cases hs), ⟨Or.inr (Or.inl ⟨by rw [Int32.neg_neg]; exact hpp, k9, hk9, by rw [Int32.neg_neg]; exact ek9, by rw [eb]; exact ek9⟩), hrl⟩, (hR.em _).pl _, by simp only [List.length_cons]; omega, fun hp => ⟨fun q1 q2 => absurd q1 (by omega), fun q => Or.inl (by decide)⟩⟩⟩
  refine k_aload_n eX12_readsOne_16 rfl ?_
  refine cVB (M' := MX12_readsNumber) eX12_readsOne_17 mX12_222 wX12_readsNumber vX12_readsNumber ⟨_, _, _, rfl, rfl, rfl⟩ rfl (pX12_readsNumber (S := S) (c := c) (dg := dg) ⟨hn, hpn, hc, hrl, hR, hml⟩ ⟨(hr_dig c_13).1, by have h9 := c_13; rw [hr_p (hr_dig c_13).1] at h9; exact h9⟩) (by omega) (Nat.le_of_ble_eq_true rfl) ?_
  intro g U hQ
  refine k_ireturn eX12_readsOne_20 rfl (k_nb _) ?_
  exact ⟨g, U, rfl, rfl, hQ⟩
