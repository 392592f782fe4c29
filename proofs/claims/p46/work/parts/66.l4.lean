theorem dvX11 : ∀ (Z : k_Z) (j : Nat), j < 16 → defaultValue (tyX11 j) = vp_V ([.null, .null, .null, .null, .null, .null, .null, .null, .null, .null, .null, .int 0, .null, .null, .int 0, .null].map (kb Z)) j := by
  intro Z j hj
  rcases (by omega : j = 0 ∨ j = 1 ∨ j = 2 ∨ j = 3 ∨ j = 4 ∨ j = 5 ∨ j = 6 ∨ j = 7 ∨ j = 8 ∨ j = 9 ∨ j = 10 ∨ j = 11 ∨ j = 12 ∨ j = 13 ∨ j = 14 ∨ j = 15) with rfl | rfl | rfl | rfl | rfl | rfl | rfl | rfl | rfl | rfl | rfl | rfl | rfl | rfl | rfl | rfl <;> rfl
/-- what build leaves -/
def BdQ (Ns : Nat) (xs : Nat → Int32) : Option Value → k_H → Prop := fun r h1 => r = some (.ref 0) ∧ ∃ S g, h1 = hp S ++ g ∧ Bd Ns xs S 4 2 40
set_option maxHeartbeats 1000000 in
theorem b240 {Ns : Nat} {xs : Nat → Int32} (hN : Ns ≤ 260) {S : k_S} {g : k_H} (hB : Bd Ns xs S 4 2 40) : AW (some (Ns, xs)) ML_build 8 0 0 240 [.retAddr 0, .ref 0, .null] [] (hp S ++ g) (BdQ Ns xs) := by
  refine k_aload_n eL_build_240 rfl ?_
  refine k_aloadT eL_build_241 rfl ?_
  refine k_callSX (M' := ML_lost) (bc' := 0) (bs' := 0) (bc2 := 0) (bs2 := 0) eL_build_242 mL_101 wL_lost sL_lost rfl (pL_lost hN) (by decide) ⟨rfl, rfl⟩ (Nat.le_of_ble_eq_true rfl) ?_
  rintro r h1 ⟨rfl, e1⟩
  obtain rfl := e1.symm
  refine cG1 (M' := MX11_lost) eL_build_245 mL_104 wX11_lost vX11_lost ⟨_, _, _, rfl, rfl, rfl⟩ rfl (pX11_lost _) (by decide) (Nat.le_of_ble_eq_true rfl) ?_
  refine k_pop eL_build_248 rfl ?_
  refine k_aload_n eL_build_249 rfl ?_
  refine k_areturn eL_build_250 rfl (Or.inl ⟨_, rfl⟩) ?_
  refine ⟨rfl, _, _, rfl, hB.cr (cr_lost S _) ?_⟩
  rw [lost_11]; exact hB.2.2.2.2.2
theorem ga_e52 {S : k_S} {e : k_E} : (hp S ++ [e])[52]? = some e := ga_e (h := hp S)
set_option maxHeartbeats 2000000 in
theorem b157 {Ns : Nat} {xs : Nat → Int32} (hN : Ns ≤ 260) {S : k_S} (hB : Bd Ns xs S 4 2 40) : AW (some (Ns, xs)) ML_build 8 11 286 157 [.retAddr 0, .ref 0, .null] [] (hp S) (BdQ Ns xs) := by
  have l0 : lenJ.getD 0 0 = 4 := rfl
  have l1 : lenJ.getD 1 0 = 5 := rfl
  have l2 : lenJ.getD 2 0 = 3 := rfl
  have l3 : lenJ.getD 3 0 = 2 := rfl
  have m1 := lo_lt 5 (shr 3 (scr Ns xs 0))
  have m2 := lo_lt 4 (shr 8 (scr Ns xs 0))
  have m3 := lo_lt 4 (shr 12 (scr Ns xs 0))
  have g1 := dgs_le (1 + lo 5 (shr 3 (scr Ns xs 0)))
  have g2 := dgs_le (lo 4 (shr 8 (scr Ns xs 0)))
  have g3 := dgs_le (lo 4 (shr 12 (scr Ns xs 0)))
  refine k_aload_n eL_build_157 rfl ?_
  refine k_new (fs := [.null, .int 0, .int 0, .int 0]) (bc2 := 10) (bs2 := 282) (h2' := hp S ++ [.inr (1, [.null, .int 0, .int 0, .int 0])]) (a := 52) eL_build_158 clJ4 cL_73 dvJ4 ⟨rfl, rfl⟩ rfl rfl ?_
  have hk0 : Kp 52 (hp S) (hp S ++ [.inr (1, [.null, .int 0, .int 0, .int 0])]) := (Kp.rf (Nat.le_of_eq (hp_len S).symm)).app
  refine k_dup eL_build_161 rfl ?_
  refine k_callI (M' := MJ4_init_da8c8) (bc' := 1) (bs' := 16) (bc2 := 9) (bs2 := 266) eL_build_162 mL_75 wJ4_init_da8c8 iJ4_init_da8c8 rfl (pJ4_init (b := 52) ga_e52 (Nat.le_refl _) hk0.1) (by decide) ⟨rfl, rfl⟩ (Nat.le_of_ble_eq_true rfl) ?_
  rintro r h1 ⟨rfl, hk9, hsb1⟩
  have hk1 := hk0.tr hk9
  refine k_ldcS (i := 0) eL_build_165 (fun q => by cases q) (by decide) rfl rfl ?_
  have ha1 : ∃ p, h1[52]? = some (.inr (1, [.ref p, .int 0, .int 0, .int (nI (0))])) := by obtain ⟨_, _, _, _, p, _, _, q, _⟩ := hsb1; exact ⟨p, q⟩
  obtain ⟨p1, ha1⟩ := ha1
  refine k_callV (M' := MJ4_append_15ec4) (bc' := 1) (bs' := 34) (bc2 := 8) (bs2 := 232) eL_build_167 mL_78 wJ4_append_15ec4 vJ4_append_15ec4 ⟨ha1, _, rfl, rfl⟩ rfl (pJ4_appendS (i := 0) (by decide) hsb1 hk1.1 (by omega)) (by decide) ⟨rfl, rfl⟩ (Nat.le_of_ble_eq_true rfl) ?_
  rintro r h2 ⟨rfl, hk9, hsb2⟩
  have hk2 := hk1.tr hk9
  refine k_iconst (v := nI 1) eL_build_170 (by decide) ?_
  refine k_aloadT eL_build_171 rfl ?_
  refine k_iconst (v := nI 0) eL_build_172 (by decide) ?_
  refine k_callSX (M' := ML_at) (bc' := 0) (bs' := 0) (bc2 := 8) (bs2 := 232) eL_build_173 mL_70 wL_at sL_at rfl (pL_at (k := 0) hN (by omega)) (by decide) ⟨rfl, rfl⟩ (Nat.le_of_ble_eq_true rfl) ?_
  rintro r h1 ⟨rfl, e1⟩
  obtain rfl := e1.symm
  refine k_iconst (v := nI 3) eL_build_176 (by decide) ?_
  refine k_ishr eL_build_177 ?_
  refine k_topi ((shr 3 (scr Ns xs 0))) rfl ?_
  refine k_bipush (v := nI 31) eL_build_178 (by decide) ?_
  refine k_iand eL_build_180 ?_
  refine k_topi (nI (lo 5 (shr 3 (scr Ns xs 0)))) (lo_and 5 _ (by decide)) ?_
  refine k_iaddN eL_build_181 ?_
  have ha2 : ∃ p, h2[52]? = some (.inr (1, [.ref p, .int 0, .int 0, .int (nI (0 + lenJ.getD 0 0))])) := by obtain ⟨_, _, _, _, p, _, _, q, _⟩ := hsb2; exact ⟨p, q⟩
  obtain ⟨p2, ha2⟩ := ha2
  refine k_callV (M' := MJ4_append_bf812) (bc' := 1) (bs' := 34) (bc2 := 7) (bs2 := 198) eL_build_182 mL_82 wJ4_append_bf812 vJ4_append_bf812 ⟨ha2, _, rfl, rfl⟩ rfl (pJ4_appendN (k := 1 + lo 5 (shr 3 (scr Ns xs 0))) (by omega) hsb2 hk2.1 (by omega) (by omega)) (by decide) ⟨rfl, rfl⟩ (Nat.le_of_ble_eq_true rfl) ?_
  rintro r h3 ⟨rfl, hk9, hsb3⟩
  have hk3 := hk2.tr hk9
  refine k_ldcS (i := 1) eL_build_185 (fun q => by cases q) (by decide) rfl rfl ?_
  have ha3 : ∃ p, h3[52]? = some (.inr (1, [.ref p, .int 0, .int 0, .int (nI (0 + lenJ.getD 0 0 + dgs (1 + lo 5 (shr 3 (scr Ns xs 0)))))])) := by obtain ⟨_, _, _, _, p, _, _, q, _⟩ := hsb3; exact ⟨p, q⟩
  obtain ⟨p3, ha3⟩ := ha3
  refine k_callV (M' := MJ4_append_15ec4) (bc' := 1) (bs' := 34) (bc2 := 6) (bs2 := 164) eL_build_187 mL_78 wJ4_append_15ec4 vJ4_append_15ec4 ⟨ha3, _, rfl, rfl⟩ rfl (pJ4_appendS (i := 1) (by decide) hsb3 hk3.1 (by omega)) (by decide) ⟨rfl, rfl⟩ (Nat.le_of_ble_eq_true rfl) ?_
  rintro r h4 ⟨rfl, hk9, hsb4⟩
  have hk4 := hk3.tr hk9
  refine k_aloadT eL_build_190 rfl ?_
  refine k_iconst (v := nI 0) eL_build_191 (by decide) ?_
  refine k_callSX (M' := ML_at) (bc' := 0) (bs' := 0) (bc2 := 6) (bs2 := 164) eL_build_192 mL_70 wL_at sL_at rfl (pL_at (k := 0) hN (by omega)) (by decide) ⟨rfl, rfl⟩ (Nat.le_of_ble_eq_true rfl) ?_
  rintro r h1 ⟨rfl, e1⟩
  obtain rfl := e1.symm
  refine k_bipush (v := nI 8) eL_build_195 (by decide) ?_
  refine k_ishr eL_build_197 ?_
  refine k_topi ((shr 8 (scr Ns xs 0))) rfl ?_
  refine k_bipush (v := nI 15) eL_build_198 (by decide) ?_
  refine k_iand eL_build_200 ?_
  refine k_topi (nI (lo 4 (shr 8 (scr Ns xs 0)))) (lo_and 4 _ (by decide)) ?_
  have ha4 : ∃ p, h4[52]? = some (.inr (1, [.ref p, .int 0, .int 0, .int (nI (0 + lenJ.getD 0 0 + dgs (1 + lo 5 (shr 3 (scr Ns xs 0))) + lenJ.getD 1 0))])) := by obtain ⟨_, _, _, _, p, _, _, q, _⟩ := hsb4; exact ⟨p, q⟩
  obtain ⟨p4, ha4⟩ := ha4
  refine k_callV (M' := MJ4_append_bf812) (bc' := 1) (bs' := 34) (bc2 := 5) (bs2 := 130) eL_build_201 mL_82 wJ4_append_bf812 vJ4_append_bf812 ⟨ha4, _, rfl, rfl⟩ rfl (pJ4_appendN (k := lo 4 (shr 8 (scr Ns xs 0))) (by omega) hsb4 hk4.1 (by omega) (by omega)) (by decide) ⟨rfl, rfl⟩ (Nat.le_of_ble_eq_true rfl) ?_
  rintro r h5 ⟨rfl, hk9, hsb5⟩
  have hk5 := hk4.tr hk9
  refine k_ldcS (i := 2) eL_build_204 (fun q => by cases q) (by decide) rfl rfl ?_
  have ha5 : ∃ p, h5[52]? = some (.inr (1, [.ref p, .int 0, .int 0, .int (nI (0 + lenJ.getD 0 0 + dgs (1 + lo 5 (shr 3 (scr Ns xs 0))) + lenJ.getD 1 0 + dgs (lo 4 (shr 8 (scr Ns xs 0)))))])) := by obtain ⟨_, _, _, _, p, _, _, q, _⟩ := hsb5; exact ⟨p, q⟩
  obtain ⟨p5, ha5⟩ := ha5
  refine k_callV (M' := MJ4_append_15ec4) (bc' := 1) (bs' := 34) (bc2 := 4) (bs2 := 96) eL_build_206 mL_78 wJ4_append_15ec4 vJ4_append_15ec4 ⟨ha5, _, rfl, rfl⟩ rfl (pJ4_appendS (i := 2) (by decide) hsb5 hk5.1 (by omega)) (by decide) ⟨rfl, rfl⟩ (Nat.le_of_ble_eq_true rfl) ?_
  rintro r h6 ⟨rfl, hk9, hsb6⟩
  have hk6 := hk5.tr hk9
  refine k_aloadT eL_build_209 rfl ?_
  refine k_iconst (v := nI 0) eL_build_210 (by decide) ?_
  refine k_callSX (M' := ML_at) (bc' := 0) (bs' := 0) (bc2 := 4) (bs2 := 96) eL_build_211 mL_70 wL_at sL_at rfl (pL_at (k := 0) hN (by omega)) (by decide) ⟨rfl, rfl⟩ (Nat.le_of_ble_eq_true rfl) ?_
  rintro r h1 ⟨rfl, e1⟩
  obtain rfl := e1.symm
  refine k_bipush (v := nI 12) eL_build_214 (by decide) ?_
  refine k_ishr eL_build_216 ?_
  refine k_topi ((shr 12 (scr Ns xs 0))) rfl ?_
  refine k_bipush (v := nI 15) eL_build_217 (by decide) ?_
  refine k_iand eL_build_219 ?_
  refine k_topi (nI (lo 4 (shr 12 (scr Ns xs 0)))) (lo_and 4 _ (by decide)) ?_
  have ha6 : ∃ p, h6[52]? = some (.inr (1, [.ref p, .int 0, .int 0, .int (nI (0 + lenJ.getD 0 0 + dgs (1 + lo 5 (shr 3 (scr Ns xs 0))) + lenJ.getD 1 0 + dgs (lo 4 (shr 8 (scr Ns xs 0))) + lenJ.getD 2 0))])) := by obtain ⟨_, _, _, _, p, _, _, q, _⟩ := hsb6; exact ⟨p, q⟩
  obtain ⟨p6, ha6⟩ := ha6
  refine k_callV (M' := MJ4_append_bf812) (bc' := 1) (bs' := 34) (bc2 := 3) (bs2 := 62) eL_build_220 mL_82 wJ4_append_bf812 vJ4_append_bf812 ⟨ha6, _, rfl, rfl⟩ rfl (pJ4_appendN (k := lo 4 (shr 12 (scr Ns xs 0))) (by omega) hsb6 hk6.1 (by omega) (by omega)) (by decide) ⟨rfl, rfl⟩ (Nat.le_of_ble_eq_true rfl) ?_
  rintro r h7 ⟨rfl, hk9, hsb7⟩
  have hk7 := hk6.tr hk9
  refine k_ldcS (i := 3) eL_build_223 (fun q => by cases q) (by decide) rfl rfl ?_
  have ha7 : ∃ p, h7[52]? = some (.inr (1, [.ref p, .int 0, .int 0, .int (nI (0 + lenJ.getD 0 0 + dgs (1 + lo 5 (shr 3 (scr Ns xs 0))) + lenJ.getD 1 0 + dgs (lo 4 (shr 8 (scr Ns xs 0))) + lenJ.getD 2 0 + dgs (lo 4 (shr 12 (scr Ns xs 0)))))])) := by obtain ⟨_, _, _, _, p, _, _, q, _⟩ := hsb7; exact ⟨p, q⟩
  obtain ⟨p7, ha7⟩ := ha7
  refine k_callV (M' := MJ4_append_15ec4) (bc' := 1) (bs' := 34) (bc2 := 2) (bs2 := 28) eL_build_225 mL_78 wJ4_append_15ec4 vJ4_append_15ec4 ⟨ha7, _, rfl, rfl⟩ rfl (pJ4_appendS (i := 3) (by decide) hsb7 hk7.1 (by omega)) (by decide) ⟨rfl, rfl⟩ (Nat.le_of_ble_eq_true rfl) ?_
  rintro r h8 ⟨rfl, hk9, hsb8⟩
  have hk8 := hk7.tr hk9
  have ha8 : ∃ p, h8[52]? = some (.inr (1, [.ref p, .int 0, .int 0, .int (nI (0 + lenJ.getD 0 0 + dgs (1 + lo 5 (shr 3 (scr Ns xs 0))) + lenJ.getD 1 0 + dgs (lo 4 (shr 8 (scr Ns xs 0))) + lenJ.getD 2 0 + dgs (lo 4 (shr 12 (scr Ns xs 0))) + lenJ.getD 3 0))])) := by obtain ⟨_, _, _, _, p, _, _, q, _⟩ := hsb8; exact ⟨p, q⟩
  obtain ⟨p8, ha8⟩ := ha8
  refine k_callV (M' := MJ4_toString_0e30d) (bc' := 2) (bs' := 4 + (0 + lenJ.getD 0 0 + dgs (1 + lo 5 (shr 3 (scr Ns xs 0))) + lenJ.getD 1 0 + dgs (lo 4 (shr 8 (scr Ns xs 0))) + lenJ.getD 2 0 + dgs (lo 4 (shr 12 (scr Ns xs 0))) + lenJ.getD 3 0)) (bc2 := 0) (bs2 := 24 - (0 + lenJ.getD 0 0 + dgs (1 + lo 5 (shr 3 (scr Ns xs 0))) + lenJ.getD 1 0 + dgs (lo 4 (shr 8 (scr Ns xs 0))) + lenJ.getD 2 0 + dgs (lo 4 (shr 12 (scr Ns xs 0))) + lenJ.getD 3 0)) eL_build_228 mL_91 wJ4_toString_0e30d vJ4_toString_0e30d ⟨ha8, _, rfl, rfl⟩ rfl (pJ4_toString hsb8 hk8.1 (by omega) (by omega)) (by decide) ⟨rfl, by omega⟩ (Nat.le_of_ble_eq_true rfl) ?_
  rintro r h9 ⟨sp, rfl, hk9, va, f9, hva, hsp, hs9, hv9, hf9⟩
  obtain ⟨g, rfl⟩ := kp_hp (hk8.tr hk9)
  refine AW.room (bc2 := 0) (bs2 := 0) (by omega) (by omega) ?_
  refine k_callS (M' := ML_text) (bc' := 0) (bs' := 0) (bc2 := 0) (bs2 := 0) eL_build_231 mL_95 wL_text sL_text rfl (pL_text hsp hva (by omega) hs9 hv9 hB.2.2.2.2.2) (by decide) ⟨rfl, rfl⟩ (Nat.le_of_ble_eq_true rfl) ?_
  rintro r h8 ⟨rfl, T, rfl, hC, hT⟩
  have hB2 := hB.cr hC hT
  obtain ⟨tp, h120, htp⟩ := hT
  refine k_aload_n eL_build_234 rfl ?_
  refine k_iconst (v := nI 1) eL_build_235 (by decide) ?_
  refine k_callG (M' := MX11_text) eL_build_236 mL_99 wX11_text vX11_text ⟨_, _, _, rfl, rfl, rfl⟩ rfl (pX11_text htp h120 (nI 1)) (by decide) (Nat.le_of_ble_eq_true rfl) ?_
  rintro r h7 ⟨v9, T2, rfl, rfl, hQ⟩
  have hB3 := hB2.cr (cr_txt hQ) (txt_11 hQ htp h120)
  refine k_pop eL_build_239 rfl ?_
  exact b240 hN hB3
