theorem Frm.MP {I A J : List Nat} {S T : k_S} (h : Frm I A J S T) (hA : ∀ a ∈ [53, 54, 55, 58, 59, 60, 62, 63], a ∉ A) : vM T = vP (vM S) (T.2.1 61) := by
  funext k
  match k with
  | 0 => exact h.2.1 53 (hA 53 (by decide))
  | 1 => exact h.2.1 54 (hA 54 (by decide))
  | 2 => exact h.2.1 55 (hA 55 (by decide))
  | 3 => exact h.2.1 58 (hA 58 (by decide))
  | 4 => exact h.2.1 59 (hA 59 (by decide))
  | 5 => exact h.2.1 60 (hA 60 (by decide))
  | 6 => rfl
  | 7 => exact h.2.1 62 (hA 62 (by decide))
  | n + 8 => exact h.2.1 63 (hA 63 (by decide))
set_option maxHeartbeats 400000 in
theorem lX12_feel {d0 : Nat} (hdd : 3 ≤ d0) {S0 : k_S} {V : k_V} (hV : vM S0 = V) {dn : Nat} (hdn : S0.1 2611 = nI dn) (hcd : CntOk V dn) (hpl : PlanOk V) {wk : Nat} (hwk : S0.1 2600 = nI wk) (hwk1 : 1 ≤ wk) (hwk6 : wk ≤ 6) {T : List Int32} (hT : TxM S0 2 T) {u z : Nat} (hu : u < 5) (hz31 : z < 2 ^ 31) (hz1 : z / 1000 ≤ z % 1000) (hz2 : z % 1000 < 120) : ∀ (k j : Nat) (S : k_S), j + k = z % 1000 + 1 - z / 1000 → (S.2.1 61 = flP V dn u T (S0.1 2600) (z / 1000) (V 6) j) → (Frm [] [61, 81, 82] [] S0 S) → AW none MX12_feel d0 0 0 55 [.ref 52, .int (nI u), .int (nI z), .int (nI (z / 1000 + j)), .null] [] (hp S) (Rx (some (.int (nI (cnt (flP V dn u T (S0.1 2600) (z / 1000) (V 6) (z % 1000 + 1 - z / 1000)) (z / 1000) (z % 1000 + 1 - z / 1000))))) (fun S' => S'.2.1 61 = flP V dn u T (S0.1 2600) (z / 1000) (V 6) (z % 1000 + 1 - z / 1000) ∧ S'.1 2626 = nI 0 ∧ S'.1 2625 = nI 0 ∧ Frm [2625, 2626] [61, 81, 82] [] S0 S')) := by
  intro k
  induction k with
  | zero =>
    intro j S hj h61 g0
    have ej : j = z % 1000 + 1 - z / 1000 := by omega
    subst ej
    refine k_iload_n eX12_feel_55 rfl ?_
    refine k_iload_n eX12_feel_56 rfl ?_
    refine k_sipush (v := nI 1000) eX12_feel_57 (by decide) ?_
    refine k_iremN eX12_feel_60 (by omega) (by omega) (by omega) ?_
    refine k_icmp_gtN 209 eX12_feel_61 (by decide) (by omega) (by omega) (fun c_61 => ?_) (fun c_61 => by exfalso; omega)
    refine k_aload_n eX12_feel_209 rfl ?_
    refine cV0 (M' := MX12_noChanges) eX12_feel_210 mX12_159 wX12_noChanges vX12_noChanges ⟨_, _, _, rfl, rfl, rfl⟩ rfl (pX12_noChanges (S := S) ) (by omega) (Nat.le_of_ble_eq_true rfl) ?_
    have hVe : vM (si (si S 2626 (nI 0)) 2625 (nI 0)) = vP V (flP V dn u T (S0.1 2600) (z / 1000) (V 6) (z % 1000 + 1 - z / 1000)) := by
      show vM S = _
      rw [g0.MP (by decide), hV, h61]
    have hple : PlanOk (vP V (flP V dn u T (S0.1 2600) (z / 1000) (V 6) (z % 1000 + 1 - z / 1000))) := flP_ok hwk hwk6 (p := V 6) hpl _
    refine k_aload_n eX12_feel_213 rfl ?_
    refine k_iload_n eX12_feel_214 rfl ?_
    refine k_sipush (v := nI 1000) eX12_feel_215 (by decide) ?_
    refine k_idivN eX12_feel_218 (by omega) (by omega) (by omega) ?_
    refine k_iload_n eX12_feel_219 rfl ?_
    refine k_sipush (v := nI 1000) eX12_feel_220 (by decide) ?_
    refine k_iremN eX12_feel_223 (by omega) (by omega) (by omega) ?_
    refine cV1 (M' := MX12_workDays) eX12_feel_224 mX12_162 wX12_workDays vX12_workDays ⟨_, _, _, rfl, rfl, rfl⟩ rfl (pX12_workDays (S := (si (si S 2626 (nI 0)) 2625 (nI 0))) (V := vP V (flP V dn u T (S0.1 2600) (z / 1000) (V 6) (z % 1000 + 1 - z / 1000))) (x := z / 1000) (y := z % 1000) hVe hple (by omega) (by omega)) (by omega) (Nat.le_of_ble_eq_true rfl) ?_
    refine k_topi (nI (cnt (flP V dn u T (S0.1 2600) (z / 1000) (V 6) (z % 1000 + 1 - z / 1000)) (z / 1000) (z % 1000 + 1 - z / 1000))) (by rw [show (si (si S 2626 (nI 0)) 2625 (nI 0)).2.1 61 = S.2.1 61 from rfl, h61]) ?_
    refine k_ireturn eX12_feel_227 rfl rfl ?_
    exact ⟨rfl, _, rfl, h61, rfl, rfl, ((g0.wk (by decide) (by decide) (by decide)).si (by decide) _).si (by decide) _⟩
  | succ k ih =>
    intro j S hj h61 g0
    have hV1 : vM S = vP V (flP V dn u T (S0.1 2600) (z / 1000) (V 6) j) := by rw [g0.MP (by decide), hV, h61]
    have hdn1 : S.1 2611 = nI dn := (g0.1 2611 (by decide)).trans hdn
    have hcd1 : CntOk (vP V (flP V dn u T (S0.1 2600) (z / 1000) (V 6) j)) dn := hcd
    have hpl1 : PlanOk (vP V (flP V dn u T (S0.1 2600) (z / 1000) (V 6) j)) := flP_ok hwk hwk6 (p := V 6) hpl j
    have hT1 : TxM S 2 T := hT.fr g0 (by decide) (by decide)
    have hwkS : S.1 2600 = nI wk := (g0.1 2600 (by decide)).trans hwk
    have hTl := hT.2.1
    refine k_iload_n eX12_feel_55 rfl ?_
    refine k_iload_n eX12_feel_56 rfl ?_
    refine k_sipush (v := nI 1000) eX12_feel_57 (by decide) ?_
    refine k_iremN eX12_feel_60 (by omega) (by omega) (by omega) ?_
    refine k_icmp_gtN 209 eX12_feel_61 (by decide) (by omega) (by omega) (fun c_61 => by exfalso; omega) (fun c_61 => ?_)
    refine k_iconst (v := nI 0) eX12_feel_64 (by decide) ?_
    refine k_istore (L2 := [_, _, _, _, _]) eX12_feel_65 (Nat.le_of_ble_eq_true rfl) rfl ?_
    refine k_aload_n eX12_feel_67 rfl ?_
    refine GX12_53 eX12_feel_68 rfl ?_
    refine k_iconst (v := nI 2) eX12_feel_71 (by decide) ?_
    refine k_ialdN (j := 2) eX12_feel_72 (ar66 _) (by omega) (Nat.le_of_ble_eq_true rfl) ?_
    refine k_topi (nI (T.length)) hT1.1 ?_
    refine k_if_leN 182 eX12_feel_73 (by decide) (by omega) (fun c_73 => ?_) (fun c_73 => ?_)
    · have hwkU := hwkS
      refine k_aload_n eX12_feel_182 rfl ?_
      refine GX12_38 eX12_feel_183 rfl ?_
      refine k_iload_n eX12_feel_186 rfl ?_
      refine k_aload_n eX12_feel_187 rfl ?_
      refine k_iload eX12_feel_188 rfl ?_
      refine cV1 (M' := MX12_isWork) eX12_feel_190 mX12_153 wX12_isWork vX12_isWork ⟨_, _, _, rfl, rfl, rfl⟩ rfl (pX12_isWork (S := S) (wk := wk) hwkU hwk6 (nI 0)) (by omega) (Nat.le_of_ble_eq_true rfl) ?_
      refine k_ifb_eq 201 eX12_feel_193 (by decide) (fun c_193 => ?_) (fun c_193 => ?_)
      · refine k_iconst (v := nI 0) eX12_feel_201 (by decide) ?_
        refine k_iastN (j := (z / 1000 + j)) eX12_feel_202 (ar61 _) (by omega) (Nat.le_of_ble_eq_true rfl) (as61 _ _) ?_
        refine k_iincN (g := 1) (a := (z / 1000 + j)) (L2 := [_, _, _, _, _]) eX12_feel_203 (Nat.le_of_ble_eq_true rfl) rfl rfl ?_
        refine k_goto 55 eX12_feel_206 (by decide) ?_
        refine k_forget 4 (L2 := [_, _, _, _, _]) rfl ?_
        refine ih (j + 1) _ (by omega) ?_ (g0.sa (by decide) _)
        show va_up (S.2.1 61) (z / 1000 + j) _ = _
        rw [h61, flP, flW, show flV V dn u T (flP V dn u T (S0.1 2600) (z / 1000) (V 6) j) (z / 1000 + j) = nI 0 from by rw [flV, show T = [] from len0 c_73] <;> rfl, ite_self]
      refine k_iload eX12_feel_196 rfl ?_
      refine k_goto 202 eX12_feel_198 (by decide) ?_
      refine k_iastN (j := (z / 1000 + j)) eX12_feel_202 (ar61 _) (by omega) (Nat.le_of_ble_eq_true rfl) (as61 _ _) ?_
      refine k_iincN (g := 1) (a := (z / 1000 + j)) (L2 := [_, _, _, _, _]) eX12_feel_203 (Nat.le_of_ble_eq_true rfl) rfl rfl ?_
      refine k_goto 55 eX12_feel_206 (by decide) ?_
      refine k_forget 4 (L2 := [_, _, _, _, _]) rfl ?_
      refine ih (j + 1) _ (by omega) ?_ (g0.sa (by decide) _)
      show va_up (S.2.1 61) (z / 1000 + j) _ = _
      rw [h61, flP, flW, show flV V dn u T (flP V dn u T (S0.1 2600) (z / 1000) (V 6) j) (z / 1000 + j) = nI 0 from by rw [flV, show T = [] from len0 c_73] <;> rfl, ite_self]
    refine k_aload_n eX12_feel_76 rfl ?_
    refine GX12_102 eX12_feel_77 rfl ?_
    refine k_iconst (v := nI 0) eX12_feel_80 (by decide) ?_
    refine k_aload_n eX12_feel_81 rfl ?_
    refine k_iload_n eX12_feel_82 rfl ?_
    refine k_iload_n eX12_feel_83 rfl ?_
    refine k_iconst (v := nI 2) eX12_feel_84 (by decide) ?_
    refine k_iconst (v := nI 1) eX12_feel_85 (by decide) ?_
    refine cV1 (M' := MX12_sumOf) eX12_feel_86 mX12_178 wX12_sumOf vX12_sumOf ⟨_, _, _, rfl, rfl, rfl⟩ rfl (pX12_sumOf (S := S) (V := vP V (flP V dn u T (S0.1 2600) (z / 1000) (V 6) j)) (r := u) (dd := (z / 1000 + j)) (q := 2) (g := 1) hV1 hpl1 hu (by omega) (by omega) (by omega)) (by omega) (Nat.le_of_ble_eq_true rfl) ?_
    refine k_sipush (v := nI 1000) eX12_feel_89 (by decide) ?_
    refine k_idiv eX12_feel_92 (by decide) ?_
    refine k_iastN (j := 0) eX12_feel_93 (ar81 _) (by omega) (Nat.le_of_ble_eq_true rfl) (as81 _ _) ?_
    obtain ⟨T0, e0⟩ : ∃ T0, sa S 81 (va_up (S.2.1 81) 0 (smV (vP V (flP V dn u T (S0.1 2600) (z / 1000) (V 6) j)) u (z / 1000 + j) 2 1 / nI 1000)) = T0 := ⟨_, rfl⟩
    have v0 : vM T0 = vP V (flP V dn u T (S0.1 2600) (z / 1000) (V 6) j) := by rw [← e0]; exact hV1
    have d0 : T0.1 2611 = nI dn := by rw [← e0]; exact hdn1
    have f0 : Frm [] [81, 82] [] S T0 := by rw [← e0]; exact ((Frm.rf S)).sa (by decide) _
    refine k_heap (h2 := hp T0) (congrArg hp e0) ?_
    refine k_aload_n eX12_feel_94 rfl ?_
    refine GX12_102 eX12_feel_95 rfl ?_
    refine k_iconst (v := nI 1) eX12_feel_98 (by decide) ?_
    refine k_aload_n eX12_feel_99 rfl ?_
    refine k_iload_n eX12_feel_100 rfl ?_
    refine k_iload_n eX12_feel_101 rfl ?_
    refine k_iconst (v := nI 1) eX12_feel_102 (by decide) ?_
    refine k_iconst (v := nI 1) eX12_feel_103 (by decide) ?_
    refine cV1 (M' := MX12_sumOf) eX12_feel_104 mX12_178 wX12_sumOf vX12_sumOf ⟨_, _, _, rfl, rfl, rfl⟩ rfl (pX12_sumOf (S := T0) (V := vP V (flP V dn u T (S0.1 2600) (z / 1000) (V 6) j)) (r := u) (dd := (z / 1000 + j)) (q := 1) (g := 1) v0 hpl1 hu (by omega) (by omega) (by omega)) (by omega) (Nat.le_of_ble_eq_true rfl) ?_
    refine k_sipush (v := nI 1000) eX12_feel_107 (by decide) ?_
    refine k_idiv eX12_feel_110 (by decide) ?_
    refine k_iastN (j := 1) eX12_feel_111 (ar81 _) (by omega) (Nat.le_of_ble_eq_true rfl) (as81 _ _) ?_
    obtain ⟨T1, e1⟩ : ∃ T1, sa T0 81 (va_up (T0.2.1 81) 1 (smV (vP V (flP V dn u T (S0.1 2600) (z / 1000) (V 6) j)) u (z / 1000 + j) 1 1 / nI 1000)) = T1 := ⟨_, rfl⟩
    have v1 : vM T1 = vP V (flP V dn u T (S0.1 2600) (z / 1000) (V 6) j) := by rw [← e1]; exact v0
    have d1 : T1.1 2611 = nI dn := by rw [← e1]; exact d0
    have f1 : Frm [] [81, 82] [] S T1 := by rw [← e1]; exact (f0).sa (by decide) _
    refine k_heap (h2 := hp T1) (congrArg hp e1) ?_
    refine k_aload_n eX12_feel_112 rfl ?_
    refine GX12_102 eX12_feel_113 rfl ?_
    refine k_iconst (v := nI 2) eX12_feel_116 (by decide) ?_
    refine k_iload_n eX12_feel_117 rfl ?_
    refine k_if_neN 125 eX12_feel_118 (by decide) (by omega) (fun c_118 => ?_) (fun c_118 => ?_)
    · refine k_aload_n eX12_feel_125 rfl ?_
      refine GX12_38 eX12_feel_126 rfl ?_
      refine k_iload_n eX12_feel_129 rfl ?_
      refine k_iconst (v := nI 1) eX12_feel_130 (by decide) ?_
      refine k_isubN eX12_feel_131 (by omega) ?_
      refine k_ialdN (j := ((z / 1000 + j) - 1)) eX12_feel_132 (ar61 _) (by omega) (Nat.le_of_ble_eq_true rfl) ?_
      refine k_topi (nI (pw (vP V (flP V dn u T (S0.1 2600) (z / 1000) (V 6) j)) ((z / 1000 + j) - 1))) (mpl v1 hpl1 (by omega)) ?_
      refine k_topi (ahW (vP V (flP V dn u T (S0.1 2600) (z / 1000) (V 6) j)) (z / 1000 + j)) (by first | rw [ahW, if_pos (by omega)] | rw [ahW, if_neg (by omega)]) ?_
      refine k_iastN (j := 2) eX12_feel_133 (ar81 _) (by omega) (Nat.le_of_ble_eq_true rfl) (as81 _ _) ?_
      obtain ⟨T2, e2⟩ : ∃ T2, sa T1 81 (va_up (T1.2.1 81) 2 (ahW (vP V (flP V dn u T (S0.1 2600) (z / 1000) (V 6) j)) (z / 1000 + j))) = T2 := ⟨_, rfl⟩
      have v2 : vM T2 = vP V (flP V dn u T (S0.1 2600) (z / 1000) (V 6) j) := by rw [← e2]; exact v1
      have d2 : T2.1 2611 = nI dn := by rw [← e2]; exact d1
      have f2 : Frm [] [81, 82] [] S T2 := by rw [← e2]; exact (f1).sa (by decide) _
      refine k_heap (h2 := hp T2) (congrArg hp e2) ?_
      refine k_aload_n eX12_feel_134 rfl ?_
      refine GX12_102 eX12_feel_135 rfl ?_
      refine k_iconst (v := nI 3) eX12_feel_138 (by decide) ?_
      refine k_iconst (v := nI 0) eX12_feel_139 (by decide) ?_
      refine k_iastN (j := 3) eX12_feel_140 (ar81 _) (by omega) (Nat.le_of_ble_eq_true rfl) (as81 _ _) ?_
      obtain ⟨T3, e3⟩ : ∃ T3, sa T2 81 (va_up (T2.2.1 81) 3 (nI 0)) = T3 := ⟨_, rfl⟩
      have v3 : vM T3 = vP V (flP V dn u T (S0.1 2600) (z / 1000) (V 6) j) := by rw [← e3]; exact v2
      have d3 : T3.1 2611 = nI dn := by rw [← e3]; exact d2
      have f3 : Frm [] [81, 82] [] S T3 := by rw [← e3]; exact (f2).sa (by decide) _
      refine k_heap (h2 := hp T3) (congrArg hp e3) ?_
      refine k_aload_n eX12_feel_141 rfl ?_
      refine GX12_102 eX12_feel_142 rfl ?_
      refine k_iconst (v := nI 4) eX12_feel_145 (by decide) ?_
      refine k_iload_n eX12_feel_146 rfl ?_
      refine k_iastN (j := 4) eX12_feel_147 (ar81 _) (by omega) (Nat.le_of_ble_eq_true rfl) (as81 _ _) ?_
      obtain ⟨T4, e4⟩ : ∃ T4, sa T3 81 (va_up (T3.2.1 81) 4 (nI (z / 1000 + j))) = T4 := ⟨_, rfl⟩
      have v4 : vM T4 = vP V (flP V dn u T (S0.1 2600) (z / 1000) (V 6) j) := by rw [← e4]; exact v3
      have d4 : T4.1 2611 = nI dn := by rw [← e4]; exact d3
      have f4 : Frm [] [81, 82] [] S T4 := by rw [← e4]; exact (f3).sa (by decide) _
      refine k_heap (h2 := hp T4) (congrArg hp e4) ?_
      refine k_aload_n eX12_feel_148 rfl ?_
      refine GX12_102 eX12_feel_149 rfl ?_
      refine k_iconst (v := nI 5) eX12_feel_152 (by decide) ?_
      refine k_iconst (v := nI 0) eX12_feel_153 (by decide) ?_
      refine k_iastN (j := 5) eX12_feel_154 (ar81 _) (by omega) (Nat.le_of_ble_eq_true rfl) (as81 _ _) ?_
      obtain ⟨T5, e5⟩ : ∃ T5, sa T4 81 (va_up (T4.2.1 81) 5 (nI 0)) = T5 := ⟨_, rfl⟩
      have v5 : vM T5 = vP V (flP V dn u T (S0.1 2600) (z / 1000) (V 6) j) := by rw [← e5]; exact v4
      have d5 : T5.1 2611 = nI dn := by rw [← e5]; exact d4
      have f5 : Frm [] [81, 82] [] S T5 := by rw [← e5]; exact (f4).sa (by decide) _
      refine k_heap (h2 := hp T5) (congrArg hp e5) ?_
      refine k_aload_n eX12_feel_155 rfl ?_
      refine GX12_102 eX12_feel_156 rfl ?_
      refine k_bipush (v := nI 6) eX12_feel_159 (by decide) ?_
      refine k_aload_n eX12_feel_161 rfl ?_
      refine k_iload_n eX12_feel_162 rfl ?_
      refine cV1 (M' := MX12_toNext) eX12_feel_163 mX12_266 wX12_toNext vX12_toNext ⟨_, _, _, rfl, rfl, rfl⟩ rfl (pX12_toNext (S := T5) (V := vP V (flP V dn u T (S0.1 2600) (z / 1000) (V 6) j)) (dn := dn) (dd := (z / 1000 + j)) v5 d5 hcd1 (by omega)) (by omega) (Nat.le_of_ble_eq_true rfl) ?_
      refine k_iastN (j := 6) eX12_feel_166 (ar81 _) (by omega) (Nat.le_of_ble_eq_true rfl) (as81 _ _) ?_
      obtain ⟨T6, e6⟩ : ∃ T6, sa T5 81 (va_up (T5.2.1 81) 6 (gNx (vP V (flP V dn u T (S0.1 2600) (z / 1000) (V 6) j)) dn (z / 1000 + j))) = T6 := ⟨_, rfl⟩
      have v6 : vM T6 = vP V (flP V dn u T (S0.1 2600) (z / 1000) (V 6) j) := by rw [← e6]; exact v5
      have d6 : T6.1 2611 = nI dn := by rw [← e6]; exact d5
      have f6 : Frm [] [81, 82] [] S T6 := by rw [← e6]; exact (f5).sa (by decide) _
      refine k_heap (h2 := hp T6) (congrArg hp e6) ?_
      refine k_aload_n eX12_feel_167 rfl ?_
      refine GX12_102 eX12_feel_168 rfl ?_
      refine k_bipush (v := nI 7) eX12_feel_171 (by decide) ?_
      refine k_iconst (v := nI 0) eX12_feel_173 (by decide) ?_
      refine k_iastN (j := 7) eX12_feel_174 (ar81 _) (by omega) (Nat.le_of_ble_eq_true rfl) (as81 _ _) ?_
      obtain ⟨T7, e7⟩ : ∃ T7, sa T6 81 (va_up (T6.2.1 81) 7 (nI 0)) = T7 := ⟨_, rfl⟩
      have v7 : vM T7 = vP V (flP V dn u T (S0.1 2600) (z / 1000) (V 6) j) := by rw [← e7]; exact v6
      have d7 : T7.1 2611 = nI dn := by rw [← e7]; exact d6
      have f7 : Frm [] [81, 82] [] S T7 := by rw [← e7]; exact (f6).sa (by decide) _
      refine k_heap (h2 := hp T7) (congrArg hp e7) ?_
      refine k_aload_n eX12_feel_175 rfl ?_
      refine k_iconst (v := nI 2) eX12_feel_176 (by decide) ?_
      have h81 : ∀ k, k < 7 → T7.2.1 81 k = nmA (vP V (flP V dn u T (S0.1 2600) (z / 1000) (V 6) j)) dn u (z / 1000 + j) k := by
        intro k hk
        rw [← e7, ← e6, ← e5, ← e4, ← e3, ← e2, ← e1, ← e0]
        rcases (by omega : k = 0 ∨ k = 1 ∨ k = 2 ∨ k = 3 ∨ k = 4 ∨ k = 5 ∨ k = 6) with rfl | rfl | rfl | rfl | rfl | rfl | rfl <;> rfl
      refine cVX1 (M' := MX12_says) eX12_feel_177 mX12_269 wX12_says vX12_says ⟨_, _, _, rfl, rfl, rfl⟩ rfl (pX12_says (S := T7) (q := 2) (by decide) (hT1.fr f7 (by decide) (by decide))) (by omega) (Nat.le_of_ble_eq_true rfl) ?_
      intro U fu
      refine k_topi ((flV V dn u T (flP V dn u T (S0.1 2600) (z / 1000) (V 6) j) (z / 1000 + j))) (nm8 _ _ h81 T) ?_
      refine k_istore (L2 := [_, _, _, _, _]) eX12_feel_180 (Nat.le_of_ble_eq_true rfl) rfl ?_
      have hwkU : U.1 2600 = nI wk := (fu.1 2600 (by decide)).trans ((f7.1 2600 (by decide)).trans hwkS)
      refine k_aload_n eX12_feel_182 rfl ?_
      refine GX12_38 eX12_feel_183 rfl ?_
      refine k_iload_n eX12_feel_186 rfl ?_
      refine k_aload_n eX12_feel_187 rfl ?_
      refine k_iload eX12_feel_188 rfl ?_
      refine cV1 (M' := MX12_isWork) eX12_feel_190 mX12_153 wX12_isWork vX12_isWork ⟨_, _, _, rfl, rfl, rfl⟩ rfl (pX12_isWork (S := U) (wk := wk) hwkU hwk6 ((flV V dn u T (flP V dn u T (S0.1 2600) (z / 1000) (V 6) j) (z / 1000 + j)))) (by omega) (Nat.le_of_ble_eq_true rfl) ?_
      refine k_ifb_eq 201 eX12_feel_193 (by decide) (fun c_193 => ?_) (fun c_193 => ?_)
      · refine k_iconst (v := nI 0) eX12_feel_201 (by decide) ?_
        refine k_iastN (j := (z / 1000 + j)) eX12_feel_202 (ar61 _) (by omega) (Nat.le_of_ble_eq_true rfl) (as61 _ _) ?_
        refine k_iincN (g := 1) (a := (z / 1000 + j)) (L2 := [_, _, _, _, _]) eX12_feel_203 (Nat.le_of_ble_eq_true rfl) rfl rfl ?_
        refine k_goto 55 eX12_feel_206 (by decide) ?_
        refine k_forget 4 (L2 := [_, _, _, _, _]) rfl ?_
        have ek : U.1 2600 = S0.1 2600 := (fu.1 2600 (by decide)).trans ((f7.1 2600 (by decide)).trans (g0.1 2600 (by decide)))
        have e61 : U.2.1 61 = flP V dn u T (S0.1 2600) (z / 1000) (V 6) j := (fu.2.1 61 (by decide)).trans ((f7.2.1 61 (by decide)).trans h61)
        refine ih (j + 1) _ (by omega) ?_ ((g0.tr ((f7.wk (by decide) (by decide) (by decide)).tr (fu.wk (by decide) (by decide) (by decide)))).sa (by decide) _)
        show va_up (U.2.1 61) (z / 1000 + j) _ = _
        rw [ek] at c_193
        first
        | rw [e61, flP, flW, if_pos c_193]
        | rw [e61, flP, flW, if_neg c_193]
      refine k_iload eX12_feel_196 rfl ?_
      refine k_goto 202 eX12_feel_198 (by decide) ?_
      refine k_iastN (j := (z / 1000 + j)) eX12_feel_202 (ar61 _) (by omega) (Nat.le_of_ble_eq_true rfl) (as61 _ _) ?_
      refine k_iincN (g := 1) (a := (z / 1000 + j)) (L2 := [_, _, _, _, _]) eX12_feel_203 (Nat.le_of_ble_eq_true rfl) rfl rfl ?_
      refine k_goto 55 eX12_feel_206 (by decide) ?_
      refine k_forget 4 (L2 := [_, _, _, _, _]) rfl ?_
      have ek : U.1 2600 = S0.1 2600 := (fu.1 2600 (by decide)).trans ((f7.1 2600 (by decide)).trans (g0.1 2600 (by decide)))
      have e61 : U.2.1 61 = flP V dn u T (S0.1 2600) (z / 1000) (V 6) j := (fu.2.1 61 (by decide)).trans ((f7.2.1 61 (by decide)).trans h61)
      refine ih (j + 1) _ (by omega) ?_ ((g0.tr ((f7.wk (by decide) (by decide) (by decide)).tr (fu.wk (by decide) (by decide) (by decide)))).sa (by decide) _)
      show va_up (U.2.1 61) (z / 1000 + j) _ = _
      rw [ek] at c_193
      first
      | rw [e61, flP, flW, if_pos c_193]
      | rw [e61, flP, flW, if_neg c_193]
    refine k_iconst (v := nI 0) eX12_feel_121 (by decide) ?_
    refine k_goto 133 eX12_feel_122 (by decide) ?_
    refine k_topi (ahW (vP V (flP V dn u T (S0.1 2600) (z / 1000) (V 6) j)) (z / 1000 + j)) (by first | rw [ahW, if_pos (by omega)] | rw [ahW, if_neg (by omega)]) ?_
    refine k_iastN (j := 2) eX12_feel_133 (ar81 _) (by omega) (Nat.le_of_ble_eq_true rfl) (as81 _ _) ?_
    obtain ⟨T2, e2⟩ : ∃ T2, sa T1 81 (va_up (T1.2.1 81) 2 (ahW (vP V (flP V dn u T (S0.1 2600) (z / 1000) (V 6) j)) (z / 1000 + j))) = T2 := ⟨_, rfl⟩
    have v2 : vM T2 = vP V (flP V dn u T (S0.1 2600) (z / 1000) (V 6) j) := by rw [← e2]; exact v1
    have d2 : T2.1 2611 = nI dn := by rw [← e2]; exact d1
    have f2 : Frm [] [81, 82] [] S T2 := by rw [← e2]; exact (f1).sa (by decide) _
    refine k_heap (h2 := hp T2) (congrArg hp e2) ?_
    refine k_aload_n eX12_feel_134 rfl ?_
    refine GX12_102 eX12_feel_135 rfl ?_
    refine k_iconst (v := nI 3) eX12_feel_138 (by decide) ?_
    refine k_iconst (v := nI 0) eX12_feel_139 (by decide) ?_
    refine k_iastN (j := 3) eX12_feel_140 (ar81 _) (by omega) (Nat.le_of_ble_eq_true rfl) (as81 _ _) ?_
    obtain ⟨T3, e3⟩ : ∃ T3, sa T2 81 (va_up (T2.2.1 81) 3 (nI 0)) = T3 := ⟨_, rfl⟩
    have v3 : vM T3 = vP V (flP V dn u T (S0.1 2600) (z / 1000) (V 6) j) := by rw [← e3]; exact v2
    have d3 : T3.1 2611 = nI dn := by rw [← e3]; exact d2
    have f3 : Frm [] [81, 82] [] S T3 := by rw [← e3]; exact (f2).sa (by decide) _
    refine k_heap (h2 := hp T3) (congrArg hp e3) ?_
    refine k_aload_n eX12_feel_141 rfl ?_
    refine GX12_102 eX12_feel_142 rfl ?_
    refine k_iconst (v := nI 4) eX12_feel_145 (by decide) ?_
    refine k_iload_n eX12_feel_146 rfl ?_
    refine k_iastN (j := 4) eX12_feel_147 (ar81 _) (by omega) (Nat.le_of_ble_eq_true rfl) (as81 _ _) ?_
    obtain ⟨T4, e4⟩ : ∃ T4, sa T3 81 (va_up (T3.2.1 81) 4 (nI (z / 1000 + j))) = T4 := ⟨_, rfl⟩
    have v4 : vM T4 = vP V (flP V dn u T (S0.1 2600) (z / 1000) (V 6) j) := by rw [← e4]; exact v3
    have d4 : T4.1 2611 = nI dn := by rw [← e4]; exact d3
    have f4 : Frm [] [81, 82] [] S T4 := by rw [← e4]; exact (f3).sa (by decide) _
    refine k_heap (h2 := hp T4) (congrArg hp e4) ?_
    refine k_aload_n eX12_feel_148 rfl ?_
    refine GX12_102 eX12_feel_149 rfl ?_
    refine k_iconst (v := nI 5) eX12_feel_152 (by decide) ?_
    refine k_iconst (v := nI 0) eX12_feel_153 (by decide) ?_
    refine k_iastN (j := 5) eX12_feel_154 (ar81 _) (by omega) (Nat.le_of_ble_eq_true rfl) (as81 _ _) ?_
    obtain ⟨T5, e5⟩ : ∃ T5, sa T4 81 (va_up (T4.2.1 81) 5 (nI 0)) = T5 := ⟨_, rfl⟩
    have v5 : vM T5 = vP V (flP V dn u T (S0.1 2600) (z / 1000) (V 6) j) := by rw [← e5]; exact v4
    have d5 : T5.1 2611 = nI dn := by rw [← e5]; exact d4
    have f5 : Frm [] [81, 82] [] S T5 := by rw [← e5]; exact (f4).sa (by decide) _
    refine k_heap (h2 := hp T5) (congrArg hp e5) ?_
    refine k_aload_n eX12_feel_155 rfl ?_
    refine GX12_102 eX12_feel_156 rfl ?_
    refine k_bipush (v := nI 6) eX12_feel_159 (by decide) ?_
    refine k_aload_n eX12_feel_161 rfl ?_
    refine k_iload_n eX12_feel_162 rfl ?_
    refine cV1 (M' := MX12_toNext) eX12_feel_163 mX12_266 wX12_toNext vX12_toNext ⟨_, _, _, rfl, rfl, rfl⟩ rfl (pX12_toNext (S := T5) (V := vP V (flP V dn u T (S0.1 2600) (z / 1000) (V 6) j)) (dn := dn) (dd := (z / 1000 + j)) v5 d5 hcd1 (by omega)) (by omega) (Nat.le_of_ble_eq_true rfl) ?_
    refine k_iastN (j := 6) eX12_feel_166 (ar81 _) (by omega) (Nat.le_of_ble_eq_true rfl) (as81 _ _) ?_
    obtain ⟨T6, e6⟩ : ∃ T6, sa T5 81 (va_up (T5.2.1 81) 6 (gNx (vP V (flP V dn u T (S0.1 2600) (z / 1000) (V 6) j)) dn (z / 1000 + j))) = T6 := ⟨_, rfl⟩
    have v6 : vM T6 = vP V (flP V dn u T (S0.1 2600) (z / 1000) (V 6) j) := by rw [← e6]; exact v5
    have d6 : T6.1 2611 = nI dn := by rw [← e6]; exact d5
    have f6 : Frm [] [81, 82] [] S T6 := by rw [← e6]; exact (f5).sa (by decide) _
    refine k_heap (h2 := hp T6) (congrArg hp e6) ?_
    refine k_aload_n eX12_feel_167 rfl ?_
    refine GX12_102 eX12_feel_168 rfl ?_
    refine k_bipush (v := nI 7) eX12_feel_171 (by decide) ?_
    refine k_iconst (v := nI 0) eX12_feel_173 (by decide) ?_
    refine k_iastN (j := 7) eX12_feel_174 (ar81 _) (by omega) (Nat.le_of_ble_eq_true rfl) (as81 _ _) ?_
    obtain ⟨T7, e7⟩ : ∃ T7, sa T6 81 (va_up (T6.2.1 81) 7 (nI 0)) = T7 := ⟨_, rfl⟩
    have v7 : vM T7 = vP V (flP V dn u T (S0.1 2600) (z / 1000) (V 6) j) := by rw [← e7]; exact v6
    have d7 : T7.1 2611 = nI dn := by rw [← e7]; exact d6
    have f7 : Frm [] [81, 82] [] S T7 := by rw [← e7]; exact (f6).sa (by decide) _
    refine k_heap (h2 := hp T7) (congrArg hp e7) ?_
    refine k_aload_n eX12_feel_175 rfl ?_
    refine k_iconst (v := nI 2) eX12_feel_176 (by decide) ?_
    have h81 : ∀ k, k < 7 → T7.2.1 81 k = nmA (vP V (flP V dn u T (S0.1 2600) (z / 1000) (V 6) j)) dn u (z / 1000 + j) k := by
      intro k hk
      rw [← e7, ← e6, ← e5, ← e4, ← e3, ← e2, ← e1, ← e0]
      rcases (by omega : k = 0 ∨ k = 1 ∨ k = 2 ∨ k = 3 ∨ k = 4 ∨ k = 5 ∨ k = 6) with rfl | rfl | rfl | rfl | rfl | rfl | rfl <;> rfl
    refine cVX1 (M' := MX12_says) eX12_feel_177 mX12_269 wX12_says vX12_says ⟨_, _, _, rfl, rfl, rfl⟩ rfl (pX12_says (S := T7) (q := 2) (by decide) (hT1.fr f7 (by decide) (by decide))) (by omega) (Nat.le_of_ble_eq_true rfl) ?_
    intro U fu
    refine k_topi ((flV V dn u T (flP V dn u T (S0.1 2600) (z / 1000) (V 6) j) (z / 1000 + j))) (nm8 _ _ h81 T) ?_
    refine k_istore (L2 := [_, _, _, _, _]) eX12_feel_180 (Nat.le_of_ble_eq_true rfl) rfl ?_
    have hwkU : U.1 2600 = nI wk := (fu.1 2600 (by decide)).trans ((f7.1 2600 (by decide)).trans hwkS)
    refine k_aload_n eX12_feel_182 rfl ?_
    refine GX12_38 eX12_feel_183 rfl ?_
    refine k_iload_n eX12_feel_186 rfl ?_
    refine k_aload_n eX12_feel_187 rfl ?_
    refine k_iload eX12_feel_188 rfl ?_
    refine cV1 (M' := MX12_isWork) eX12_feel_190 mX12_153 wX12_isWork vX12_isWork ⟨_, _, _, rfl, rfl, rfl⟩ rfl (pX12_isWork (S := U) (wk := wk) hwkU hwk6 ((flV V dn u T (flP V dn u T (S0.1 2600) (z / 1000) (V 6) j) (z / 1000 + j)))) (by omega) (Nat.le_of_ble_eq_true rfl) ?_
    refine k_ifb_eq 201 eX12_feel_193 (by decide) (fun c_193 => ?_) (fun c_193 => ?_)
    · refine k_iconst (v := nI 0) eX12_feel_201 (by decide) ?_
      refine k_iastN (j := (z / 1000 + j)) eX12_feel_202 (ar61 _) (by omega) (Nat.le_of_ble_eq_true rfl) (as61 _ _) ?_
      refine k_iincN (g := 1) (a := (z / 1000 + j)) (L2 := [_, _, _, _, _]) eX12_feel_203 (Nat.le_of_ble_eq_true rfl) rfl rfl ?_
      refine k_goto 55 eX12_feel_206 (by decide) ?_
      refine k_forget 4 (L2 := [_, _, _, _, _]) rfl ?_
      have ek : U.1 2600 = S0.1 2600 := (fu.1 2600 (by decide)).trans ((f7.1 2600 (by decide)).trans (g0.1 2600 (by decide)))
      have e61 : U.2.1 61 = flP V dn u T (S0.1 2600) (z / 1000) (V 6) j := (fu.2.1 61 (by decide)).trans ((f7.2.1 61 (by decide)).trans h61)
      refine ih (j + 1) _ (by omega) ?_ ((g0.tr ((f7.wk (by decide) (by decide) (by decide)).tr (fu.wk (by decide) (by decide) (by decide)))).sa (by decide) _)
      show va_up (U.2.1 61) (z / 1000 + j) _ = _
      rw [ek] at c_193
      first
      | rw [e61, flP, flW, if_pos c_193]
      | rw [e61, flP, flW, if_neg c_193]
    refine k_iload eX12_feel_196 rfl ?_
    refine k_goto 202 eX12_feel_198 (by decide) ?_
    refine k_iastN (j := (z / 1000 + j)) eX12_feel_202 (ar61 _) (by omega) (Nat.le_of_ble_eq_true rfl) (as61 _ _) ?_
    refine k_iincN (g := 1) (a := (z / 1000 + j)) (L2 := [_, _, _, _, _]) eX12_feel_203 (Nat.le_of_ble_eq_true rfl) rfl rfl ?_
    refine k_goto 55 eX12_feel_206 (by decide) ?_
    refine k_forget 4 (L2 := [_, _, _, _, _]) rfl ?_
    have ek : U.1 2600 = S0.1 2600 := (fu.1 2600 (by decide)).trans ((f7.1 2600 (by decide)).trans (g0.1 2600 (by decide)))
    have e61 : U.2.1 61 = flP V dn u T (S0.1 2600) (z / 1000) (V 6) j := (fu.2.1 61 (by decide)).trans ((f7.2.1 61 (by decide)).trans h61)
    refine ih (j + 1) _ (by omega) ?_ ((g0.tr ((f7.wk (by decide) (by decide) (by decide)).tr (fu.wk (by decide) (by decide) (by decide)))).sa (by decide) _)
    show va_up (U.2.1 61) (z / 1000 + j) _ = _
    rw [ek] at c_193
    first
    | rw [e61, flP, flW, if_pos c_193]
    | rw [e61, flP, flW, if_neg c_193]
set_option maxHeartbeats 400000 in
theorem pX12_feel {S : k_S} {V : k_V} (hV : vM S = V) {dn : Nat} (hdn : S.1 2611 = nI dn) (hcd : CntOk V dn) (hpl : PlanOk V) {rn : Nat} (hrn : S.1 2604 = nI rn) (hrn5 : rn ≤ 5) {wk : Nat} (hwk : S.1 2600 = nI wk) (hwk1 : 1 ≤ wk) (hwk6 : wk ≤ 6) {T : List Int32} (hT : TxM S 2 T) (r x : Int32) : Sp 3 0 0 MX12_feel [.ref 52, .int (r), .int (x)] (hp S) (Rx (some (.int (aFel V dn T (S.1 2604) (S.1 2600) r x))) (fun S' => (pFel (S.1 2604) r x → S'.2.1 61 = felR V dn T (S.1 2600) r x ∧ S'.1 2626 = nI 0 ∧ S'.1 2625 = nI 0 ∧ Frm [2625, 2626] [61, 81, 82] [] S S') ∧ (¬ pFel (S.1 2604) r x → S' = S))) := by
  refine Sp_of (by decide +kernel) (Nat.le_of_ble_eq_true rfl) ?_
  show AW none MX12_feel 3 0 0 0 [.ref 52, .int (r), .int (x), .null, .null] [] (hp S) _
  refine k_aload_n eX12_feel_0 rfl ?_
  refine k_iload_n eX12_feel_1 rfl ?_
  refine cV1 (M' := MX12_isRunner) eX12_feel_2 mX12_127 wX12_isRunner vX12_isRunner ⟨_, _, _, rfl, rfl, rfl⟩ rfl (pX12_isRunner (S := S) (rn := rn) hrn hrn5 (r)) (by decide) (Nat.le_of_ble_eq_true rfl) ?_
  refine k_ifb_eq 47 eX12_feel_5 (by decide) (fun c_5 => ?_) (fun c_5 => ?_)
  · refine k_iconst (v := (-1)) eX12_feel_47 (by decide) ?_
    refine k_ireturn eX12_feel_48 rfl rfl ?_
    have hN : ¬ pFel (S.1 2604) r x := (fun q => by first | exact c_5 q.1 | exact q.2.1 c_9 | exact c_20 q.2.2.1 | exact c_31 q.2.2.2.1 | exact absurd q.2.2.2.2 (Int32.not_le.mpr c_44) | exact c_44 q.2.2.2.2)
    exact ⟨by rw [aFel, if_neg hN], S, rfl, fun q => absurd q hN, fun _ => rfl⟩
  refine k_iload_n eX12_feel_8 rfl ?_
  refine k_if_lt 47 eX12_feel_9 (by decide) (fun c_9 => ?_) (fun c_9 => ?_)
  · refine k_iconst (v := (-1)) eX12_feel_47 (by decide) ?_
    refine k_ireturn eX12_feel_48 rfl rfl ?_
    have hN : ¬ pFel (S.1 2604) r x := (fun q => by first | exact c_5 q.1 | exact q.2.1 c_9 | exact c_20 q.2.2.1 | exact c_31 q.2.2.2.1 | exact absurd q.2.2.2.2 (Int32.not_le.mpr c_44) | exact c_44 q.2.2.2.2)
    exact ⟨by rw [aFel, if_neg hN], S, rfl, fun q => absurd q hN, fun _ => rfl⟩
  refine k_iload_n eX12_feel_12 rfl ?_
  refine k_sipush (v := nI 1000) eX12_feel_13 (by decide) ?_
  refine k_idiv eX12_feel_16 (by decide) ?_
  refine cS1 (M' := MX12_isDay) eX12_feel_17 mX12_131 wX12_isDay sX12_isDay rfl (pX12_isDay ((x / nI 1000))) (by decide) (Nat.le_of_ble_eq_true rfl) ?_
  refine k_ifb_eq 47 eX12_feel_20 (by decide) (fun c_20 => ?_) (fun c_20 => ?_)
  · refine k_iconst (v := (-1)) eX12_feel_47 (by decide) ?_
    refine k_ireturn eX12_feel_48 rfl rfl ?_
    have hN : ¬ pFel (S.1 2604) r x := (fun q => by first | exact c_5 q.1 | exact q.2.1 c_9 | exact c_20 q.2.2.1 | exact c_31 q.2.2.2.1 | exact absurd q.2.2.2.2 (Int32.not_le.mpr c_44) | exact c_44 q.2.2.2.2)
    exact ⟨by rw [aFel, if_neg hN], S, rfl, fun q => absurd q hN, fun _ => rfl⟩
  refine k_iload_n eX12_feel_23 rfl ?_
  refine k_sipush (v := nI 1000) eX12_feel_24 (by decide) ?_
  refine k_irem eX12_feel_27 (by decide) ?_
  refine cS1 (M' := MX12_isDay) eX12_feel_28 mX12_131 wX12_isDay sX12_isDay rfl (pX12_isDay ((x - x / nI 1000 * nI 1000))) (by decide) (Nat.le_of_ble_eq_true rfl) ?_
  refine k_ifb_eq 47 eX12_feel_31 (by decide) (fun c_31 => ?_) (fun c_31 => ?_)
  · refine k_iconst (v := (-1)) eX12_feel_47 (by decide) ?_
    refine k_ireturn eX12_feel_48 rfl rfl ?_
    have hN : ¬ pFel (S.1 2604) r x := (fun q => by first | exact c_5 q.1 | exact q.2.1 c_9 | exact c_20 q.2.2.1 | exact c_31 q.2.2.2.1 | exact absurd q.2.2.2.2 (Int32.not_le.mpr c_44) | exact c_44 q.2.2.2.2)
    exact ⟨by rw [aFel, if_neg hN], S, rfl, fun q => absurd q hN, fun _ => rfl⟩
  refine k_iload_n eX12_feel_34 rfl ?_
  refine k_sipush (v := nI 1000) eX12_feel_35 (by decide) ?_
  refine k_idiv eX12_feel_38 (by decide) ?_
  refine k_iload_n eX12_feel_39 rfl ?_
  refine k_sipush (v := nI 1000) eX12_feel_40 (by decide) ?_
  refine k_irem eX12_feel_43 (by decide) ?_
  refine k_icmp_le 49 eX12_feel_44 (by decide) (fun c_44 => ?_) (fun c_44 => ?_)
  · have hC : pFel (S.1 2604) r x := ⟨c_5, c_9, c_20, c_31, c_44⟩
    obtain ⟨u, hu, rfl⟩ := pW_ex c_5 hrn (by omega)
    obtain ⟨z, hz31, rfl, hz0, hz2, hz1⟩ := pSpn_ex hC.2
    refine k_iload_n eX12_feel_49 rfl ?_
    refine k_sipush (v := nI 1000) eX12_feel_50 (by decide) ?_
    refine k_idivN eX12_feel_53 (by omega) (by omega) (by omega) ?_
    refine k_istore_n (L2 := [_, _, _, _, _]) eX12_feel_54 (Nat.le_of_ble_eq_true rfl) rfl ?_
    have eR : felR V dn T (S.1 2600) (nI u) (nI z) = flP V dn u T (S.1 2600) (z / 1000) (V 6) (z % 1000 + 1 - z / 1000) := by rw [felR, ix_nI (by omega), rrN_nI hz31, ddN_nI hz31]
    refine k_loc (L2 := [_, _, _, .int (nI (z / 1000 + 0)), _]) rfl ?_
    refine AW.mono (lX12_feel (by decide) (S0 := S) hV hdn hcd hpl hwk hwk1 hwk6 hT (u := u) (z := z) (by omega) hz31 hz1 hz2 (z % 1000 + 1 - z / 1000) 0 S (by omega) (congrFun hV 6) (Frm.rf _)) ?_
    rintro rr hh ⟨e1, S', e2, h61, h1, h2, f9⟩
    exact ⟨by rw [e1, aFel, if_pos hC, eR, rrN_nI hz31, ddN_nI hz31] <;> rfl, S', e2, fun _ => ⟨by rw [eR]; exact h61, h1, h2, f9⟩, fun q => absurd hC q⟩
  refine k_iconst (v := (-1)) eX12_feel_47 (by decide) ?_
  refine k_ireturn eX12_feel_48 rfl rfl ?_
  have hN : ¬ pFel (S.1 2604) r x := (fun q => by first | exact c_5 q.1 | exact q.2.1 c_9 | exact c_20 q.2.2.1 | exact c_31 q.2.2.2.1 | exact absurd q.2.2.2.2 (Int32.not_le.mpr c_44) | exact c_44 q.2.2.2.2)
  exact ⟨by rw [aFel, if_neg hN], S, rfl, fun q => absurd q hN, fun _ => rfl⟩
set_option maxHeartbeats 400000 in
theorem lX12_keeps {d : Nat} {Po : Option Value → k_H → Prop} (hdd : 0 ≤ d) {S : k_S} (kx : AW none MX12_keeps d 0 0 26 [.ref 52, .int (nI 120)] [] (hp (sa S 85 (fillN (S.2.1 61) (S.2.1 85) 120))) Po) : ∀ (n j : Nat), j + n = 120 → AW none MX12_keeps d 0 0 2 [.ref 52, .int (nI j)] [] (hp (sa S 85 (fillN (S.2.1 61) (S.2.1 85) j))) Po := by
  intro n
  induction n with
  | zero =>
    intro j hj
    rw [show j = 120 by omega]
    refine k_iload_n eX12_keeps_2 rfl ?_
    refine k_bipush (v := nI 120) eX12_keeps_3 (by decide) ?_
    refine k_icmp_geN 26 eX12_keeps_5 (by decide) (by omega) (by omega) (fun c_5 => ?_) (fun c_5 => by exfalso; omega)
    exact kx
  | succ n ih =>
    intro j hj
    refine k_iload_n eX12_keeps_2 rfl ?_
    refine k_bipush (v := nI 120) eX12_keeps_3 (by decide) ?_
    refine k_icmp_geN 26 eX12_keeps_5 (by decide) (by omega) (by omega) (fun c_5 => by exfalso; omega) (fun c_5 => ?_)
    refine k_aload_n eX12_keeps_8 rfl ?_
    refine GX12_114 eX12_keeps_9 rfl ?_
    refine k_iload_n eX12_keeps_12 rfl ?_
    refine k_aload_n eX12_keeps_13 rfl ?_
    refine GX12_38 eX12_keeps_14 rfl ?_
    refine k_iload_n eX12_keeps_17 rfl ?_
    refine k_ialdN (j := j) eX12_keeps_18 (ar61 _) (by omega) (Nat.le_of_ble_eq_true rfl) ?_
    refine k_iastN (j := j) eX12_keeps_19 (ar85 _) (by omega) (Nat.le_of_ble_eq_true rfl) (as85 _ _) ?_
    refine k_iincN (g := 1) (a := j) (L2 := [_, _]) eX12_keeps_20 (Nat.le_of_ble_eq_true rfl) rfl rfl ?_
    refine k_goto 2 eX12_keeps_23 (by decide) ?_
    have q := ih (j + 1) (by omega)
    rw [fillN] at q
    rw [sa_sa, sa_at]
    exact q
set_option maxHeartbeats 400000 in
theorem pX12_keeps {S : k_S} : Sp 0 0 0 MX12_keeps [.ref 52] (hp S) (Rt (none) (hp (sa S 85 (fillN (S.2.1 61) (S.2.1 85) 120)))) := by
  refine Sp_of (by decide +kernel) (Nat.le_of_ble_eq_true rfl) ?_
  show AW none MX12_keeps 0 0 0 0 [.ref 52, .null] [] (hp S) _
  refine k_iconst (v := nI 0) eX12_keeps_0 (by decide) ?_
  refine k_istore_n (L2 := [_, _]) eX12_keeps_1 (Nat.le_of_ble_eq_true rfl) rfl ?_
  refine k_heap (h2 := hp (sa S 85 (fillN (S.2.1 61) (S.2.1 85) 0))) (by rw [fillN, sa_self]) ?_
  refine lX12_keeps (by decide) (S := S) ?_ 120 0 (by omega)
  refine k_return eX12_keeps_26 rfl ?_
  exact ⟨rfl, rfl⟩
set_option maxHeartbeats 400000 in
theorem lX12_lays {d : Nat} {Po : Option Value → k_H → Prop} (hdd : 0 ≤ d) {S : k_S} (kx : AW none MX12_lays d 0 0 26 [.ref 52, .int (nI 120)] [] (hp (sa S 61 (fillN (S.2.1 85) (S.2.1 61) 120))) Po) : ∀ (n j : Nat), j + n = 120 → AW none MX12_lays d 0 0 2 [.ref 52, .int (nI j)] [] (hp (sa S 61 (fillN (S.2.1 85) (S.2.1 61) j))) Po := by
  intro n
  induction n with
  | zero =>
    intro j hj
    rw [show j = 120 by omega]
    refine k_iload_n eX12_lays_2 rfl ?_
    refine k_bipush (v := nI 120) eX12_lays_3 (by decide) ?_
    refine k_icmp_geN 26 eX12_lays_5 (by decide) (by omega) (by omega) (fun c_5 => ?_) (fun c_5 => by exfalso; omega)
    exact kx
  | succ n ih =>
    intro j hj
    refine k_iload_n eX12_lays_2 rfl ?_
    refine k_bipush (v := nI 120) eX12_lays_3 (by decide) ?_
    refine k_icmp_geN 26 eX12_lays_5 (by decide) (by omega) (by omega) (fun c_5 => by exfalso; omega) (fun c_5 => ?_)
    refine k_aload_n eX12_lays_8 rfl ?_
    refine GX12_38 eX12_lays_9 rfl ?_
    refine k_iload_n eX12_lays_12 rfl ?_
    refine k_aload_n eX12_lays_13 rfl ?_
    refine GX12_114 eX12_lays_14 rfl ?_
    refine k_iload_n eX12_lays_17 rfl ?_
    refine k_ialdN (j := j) eX12_lays_18 (ar85 _) (by omega) (Nat.le_of_ble_eq_true rfl) ?_
    refine k_iastN (j := j) eX12_lays_19 (ar61 _) (by omega) (Nat.le_of_ble_eq_true rfl) (as61 _ _) ?_
    refine k_iincN (g := 1) (a := j) (L2 := [_, _]) eX12_lays_20 (Nat.le_of_ble_eq_true rfl) rfl rfl ?_
    refine k_goto 2 eX12_lays_23 (by decide) ?_
    have q := ih (j + 1) (by omega)
    rw [fillN] at q
    rw [sa_sa, sa_at]
    exact q
set_option maxHeartbeats 400000 in
theorem pX12_lays {S : k_S} : Sp 0 0 0 MX12_lays [.ref 52] (hp S) (Rt (none) (hp (sa S 61 (fillN (S.2.1 85) (S.2.1 61) 120)))) := by
  refine Sp_of (by decide +kernel) (Nat.le_of_ble_eq_true rfl) ?_
  show AW none MX12_lays 0 0 0 0 [.ref 52, .null] [] (hp S) _
  refine k_iconst (v := nI 0) eX12_lays_0 (by decide) ?_
  refine k_istore_n (L2 := [_, _]) eX12_lays_1 (Nat.le_of_ble_eq_true rfl) rfl ?_
  refine k_heap (h2 := hp (sa S 61 (fillN (S.2.1 85) (S.2.1 61) 0))) (by rw [fillN, sa_self]) ?_
  refine lX12_lays (by decide) (S := S) ?_ 120 0 (by omega)
  refine k_return eX12_lays_26 rfl ?_
  exact ⟨rfl, rfl⟩
/-- a plan with n days of rest from a on -/
def rsP (p : Nat → Int32) (a : Nat) : Nat → Nat → Int32
  | 0 => p
  | k + 1 => va_up (rsP p a k) (a + k) (nI 0)
theorem rsP_at (p : Nat → Int32) (a : Nat) : ∀ n j, rsP p a n j = if a ≤ j ∧ j < a + n then nI 0 else p j
  | 0, j => by rw [if_neg (by omega)]; rfl
  | n + 1, j => by
    rw [rsP, va_up]
    by_cases h : j = a + n
    · subst h; rw [if_pos rfl, if_pos (by omega)]
    · rw [if_neg h, rsP_at p a n j]
      by_cases h2 : a ≤ j ∧ j < a + n
      · rw [if_pos h2, if_pos (by omega)]
      · rw [if_neg h2, if_neg (by omega)]
theorem rsP_ok {V : k_V} {p : Nat → Int32} (h : PlanOk (vP V p)) (a n : Nat) : PlanOk (vP V (rsP p a n)) := by
  intro d hd
  have e : vP V (rsP p a n) 6 d = if a ≤ d ∧ d < a + n then nI 0 else vP V p 6 d := rsP_at p a n d
  unfold pw
  by_cases c : a ≤ d ∧ d < a + n
  · rw [e, if_pos c]; exact ⟨rfl, by decide⟩
  · rw [e, if_neg c]; exact h d hd
set_option maxHeartbeats 400000 in
theorem lX12_restsA {d : Nat} {Po : Option Value → k_H → Prop} (hdd : 0 ≤ d) {S : k_S} {p : Nat → Int32} {a b : Nat} (ha : a ≤ 120) (hb : b ≤ 60) (hc : a + b ≤ 120) (kx : AW none MX12_rests d 0 0 28 [.ref 52, .int (nI a), .int (nI b), .int (nI (a + b))] [] (hp (sa S 61 (rsP p a b))) Po) : ∀ (n j : Nat), j + n = b → AW none MX12_rests d 0 0 2 [.ref 52, .int (nI a), .int (nI b), .int (nI (a + j))] [] (hp (sa S 61 (rsP p a j))) Po := by
  intro n
  induction n with
  | zero =>
    intro j hj
    rw [show j = b by omega]
    refine k_iload_n eX12_rests_2 rfl ?_
    refine k_iload_n eX12_rests_3 rfl ?_
    refine k_iload_n eX12_rests_4 rfl ?_
    refine k_iaddN eX12_rests_5 ?_
    refine k_icmp_geN 28 eX12_rests_6 (by decide) (by omega) (by omega) (fun c_6 => ?_) (fun c_6 => by exfalso; omega)
    exact kx
  | succ n ih =>
    intro j hj
    refine k_iload_n eX12_rests_2 rfl ?_
    refine k_iload_n eX12_rests_3 rfl ?_
    refine k_iload_n eX12_rests_4 rfl ?_
    refine k_iaddN eX12_rests_5 ?_
    refine k_icmp_geN 28 eX12_rests_6 (by decide) (by omega) (by omega) (fun c_6 => by exfalso; omega) (fun c_6 => ?_)
    refine k_iload_n eX12_rests_9 rfl ?_
    refine k_bipush (v := nI 120) eX12_rests_10 (by decide) ?_
    refine k_icmp_geN 28 eX12_rests_12 (by decide) (by omega) (by omega) (fun c_12 => by exfalso; omega) (fun c_12 => ?_)
    refine k_aload_n eX12_rests_15 rfl ?_
    refine GX12_38 eX12_rests_16 rfl ?_
    refine k_iload_n eX12_rests_19 rfl ?_
    refine k_iconst (v := nI 0) eX12_rests_20 (by decide) ?_
    refine k_iastN (j := (a + j)) eX12_rests_21 (ar61 _) (by omega) (Nat.le_of_ble_eq_true rfl) (as61 _ _) ?_
    refine k_iincN (g := 1) (a := (a + j)) (L2 := [_, _, _, _]) eX12_rests_22 (Nat.le_of_ble_eq_true rfl) rfl rfl ?_
    refine k_goto 2 eX12_rests_25 (by decide) ?_
    have q := ih (j + 1) (by omega)
    rw [rsP] at q
    rw [sa_sa, sa_at]
    exact q
set_option maxHeartbeats 400000 in
theorem lX12_restsB {d : Nat} {Po : Option Value → k_H → Prop} (hdd : 0 ≤ d) {S : k_S} {p : Nat → Int32} {a b : Nat} (ha : a ≤ 120) (hb : b ≤ 60) (hc : ¬ a + b ≤ 120) (kx : AW none MX12_rests d 0 0 28 [.ref 52, .int (nI a), .int (nI b), .int (nI (a + ((120 - a))))] [] (hp (sa S 61 (rsP p a ((120 - a))))) Po) : ∀ (n j : Nat), j + n = (120 - a) → AW none MX12_rests d 0 0 2 [.ref 52, .int (nI a), .int (nI b), .int (nI (a + j))] [] (hp (sa S 61 (rsP p a j))) Po := by
  intro n
  induction n with
  | zero =>
    intro j hj
    rw [show j = (120 - a) by omega]
    refine k_iload_n eX12_rests_2 rfl ?_
    refine k_iload_n eX12_rests_3 rfl ?_
    refine k_iload_n eX12_rests_4 rfl ?_
    refine k_iaddN eX12_rests_5 ?_
    refine k_icmp_geN 28 eX12_rests_6 (by decide) (by omega) (by omega) (fun c_6 => by exfalso; omega) (fun c_6 => ?_)
    refine k_iload_n eX12_rests_9 rfl ?_
    refine k_bipush (v := nI 120) eX12_rests_10 (by decide) ?_
    refine k_icmp_geN 28 eX12_rests_12 (by decide) (by omega) (by omega) (fun c_12 => ?_) (fun c_12 => by exfalso; omega)
    exact kx
  | succ n ih =>
    intro j hj
    refine k_iload_n eX12_rests_2 rfl ?_
    refine k_iload_n eX12_rests_3 rfl ?_
    refine k_iload_n eX12_rests_4 rfl ?_
    refine k_iaddN eX12_rests_5 ?_
    refine k_icmp_geN 28 eX12_rests_6 (by decide) (by omega) (by omega) (fun c_6 => by exfalso; omega) (fun c_6 => ?_)
    refine k_iload_n eX12_rests_9 rfl ?_
    refine k_bipush (v := nI 120) eX12_rests_10 (by decide) ?_
    refine k_icmp_geN 28 eX12_rests_12 (by decide) (by omega) (by omega) (fun c_12 => by exfalso; omega) (fun c_12 => ?_)
    refine k_aload_n eX12_rests_15 rfl ?_
    refine GX12_38 eX12_rests_16 rfl ?_
    refine k_iload_n eX12_rests_19 rfl ?_
    refine k_iconst (v := nI 0) eX12_rests_20 (by decide) ?_
    refine k_iastN (j := (a + j)) eX12_rests_21 (ar61 _) (by omega) (Nat.le_of_ble_eq_true rfl) (as61 _ _) ?_
    refine k_iincN (g := 1) (a := (a + j)) (L2 := [_, _, _, _]) eX12_rests_22 (Nat.le_of_ble_eq_true rfl) rfl rfl ?_
    refine k_goto 2 eX12_rests_25 (by decide) ?_
    have q := ih (j + 1) (by omega)
    rw [rsP] at q
    rw [sa_sa, sa_at]
    exact q
theorem mX12_rests {d : Nat} {Po : Option Value → k_H → Prop} (hdd : 0 ≤ d) {S : k_S} {p : Nat → Int32} {a b : Nat} (ha : a ≤ 120) (hb : b ≤ 60) (kx : AW none MX12_rests d 0 0 28 [.ref 52, .int (nI a), .int (nI b), .int (nI (a + ((min b (120 - a)))))] [] (hp (sa S 61 (rsP p a ((min b (120 - a)))))) Po) : AW none MX12_rests d 0 0 2 [.ref 52, .int (nI a), .int (nI b), .int (nI (a + 0))] [] (hp (sa S 61 (rsP p a 0))) Po := by
  by_cases hc : a + b ≤ 120
  · exact lX12_restsA hdd ha hb hc (by rw [show min b (120 - a) = b by omega] at kx; exact kx) b 0 (by omega)
  · exact lX12_restsB hdd ha hb hc (by rw [show min b (120 - a) = 120 - a by omega] at kx; exact kx) (120 - a) 0 (by omega)
set_option maxHeartbeats 400000 in
theorem pX12_rests {S : k_S} {a b : Nat} (ha : a ≤ 120) (hb : b ≤ 60) : Sp 0 0 0 MX12_rests [.ref 52, .int (nI a), .int (nI b)] (hp S) (Rt (none) (hp (sa S 61 (rsP (S.2.1 61) a (min b (120 - a)))))) := by
  refine Sp_of (by decide +kernel) (Nat.le_of_ble_eq_true rfl) ?_
  show AW none MX12_rests 0 0 0 0 [.ref 52, .int (nI a), .int (nI b), .null] [] (hp S) _
  refine k_iload_n eX12_rests_0 rfl ?_
  refine k_istore_n (L2 := [_, _, _, _]) eX12_rests_1 (Nat.le_of_ble_eq_true rfl) rfl ?_
  refine k_heap (h2 := hp (sa S 61 (rsP (S.2.1 61) a 0))) (by rw [rsP, sa_self]) ?_
  refine mX12_rests (by decide) (S := S) (p := S.2.1 61) ha hb ?_
  refine k_return eX12_rests_28 rfl ?_
  exact ⟨rfl, rfl⟩
