theorem FltP_neg {t : Nat → Int32} {n : Nat} {f : Int32} {S : k_S} (h : FltP t n f S) (hn : n ≤ 120) (hf : f < 0) : ∃ n1, S.1 51 = nI n1 ∧ n1 ≤ 240 := by
  rcases h with ⟨j, st, h1, _, _, rfl⟩ | ⟨st, _, _, rfl⟩ | ⟨st, h1, _, _, _, h5, _⟩
  · exact absurd hf (nI_pos (by omega))
  · exact absurd hf (nI_pos (by omega))
  · have h2 := (crn_ok _ _ _ h1).1
    have h3 := ew_len 1 st.2.1 st.1
    exact ⟨_, h5, by omega⟩
abbrev pTxt (x : Int32) : Prop := pIn x (nI 1) (nI 3)
/-- what text leaves and answers -/
def TxtQ (S : k_S) (n : Nat) (x v : Int32) (U : k_S) : Prop :=
  (¬ pTxt x ∧ v = -1 ∧ U = S) ∨ (pTxt x ∧ ∃ f T, FrR S T ∧ FltP (S.2.1 12) n f T ∧ ((¬ f < 0 ∧ v = -100 - f ∧ U = si T 11 (nI 0)) ∨ (f < 0 ∧ v = 1 ∧ ∃ n1, T.1 51 = nI n1 ∧ n1 ≤ 240 ∧ U = (if x = nI 1 then bcS39 (si T 11 (nI 0)) n1 else if x = nI 2 then bcS42 (si T 11 (nI 0)) n1 else bcS45 (si T 11 (nI 0)) n1))))
set_option maxHeartbeats 400000 in
theorem pX11_text {S : k_S} {tp : Nat} (htp : S.1 11 = nI tp) (htp120 : tp ≤ 120) (x : Int32) : Sp 6 0 0 MX11_text [.ref 0, .int (x)] (hp S) (fun r h' => ∃ v U, r = some (.int v) ∧ h' = hp U ∧ TxtQ S tp x v U) := by
  refine Sp_of (by decide +kernel) (Nat.le_of_ble_eq_true rfl) ?_
  show AW none MX11_text 6 0 0 0 [.ref 0, .int (x), .null] [] (hp S) _
  refine k_iload_n eX11_text_0 rfl ?_
  refine k_iconst (v := nI 1) eX11_text_1 (by decide) ?_
  refine k_iconst (v := nI 3) eX11_text_2 (by decide) ?_
  refine cS1 (M' := MX11_within) eX11_text_3 mX11_114 wX11_within sX11_within rfl (pX11_within (x) (nI 1) (nI 3)) (by decide) (Nat.le_of_ble_eq_true rfl) ?_
  refine k_ifb_ne 11 eX11_text_6 (by decide) (fun c_6 => ?_) (fun c_6 => ?_)
  · refine k_aload_n eX11_text_11 rfl ?_
    refine GX11_10 eX11_text_12 rfl ?_
    refine k_aload_n eX11_text_15 rfl ?_
    refine GX11_30 eX11_text_16 rfl ?_
    refine k_aload_n eX11_text_19 rfl ?_
    refine GX11_34 eX11_text_20 rfl ?_
    refine k_topi (nI tp) htp ?_
    refine cVE1 (M' := MX6_faultOf) eX11_text_23 mX11_215 wX6_faultOf vX6_faultOf ⟨_, _, _, rfl, rfl, rfl⟩ rfl (pX6_faultOf (S := S) (n0 := tp) htp120) (by decide) (Nat.le_of_ble_eq_true rfl) ?_
    rintro f T ⟨f1, hf⟩
    refine k_istore_n (L2 := [_, _, _]) eX11_text_26 (Nat.le_of_ble_eq_true rfl) rfl ?_
    refine k_aload_n eX11_text_27 rfl ?_
    refine k_iconst (v := nI 0) eX11_text_28 (by decide) ?_
    refine PX11_34 eX11_text_29 rfl ?_
    refine k_iload_n eX11_text_32 rfl ?_
    refine k_if_lt 41 eX11_text_33 (by decide) (fun c_33 => ?_) (fun c_33 => ?_)
    · obtain ⟨n1, hn1, hn1b⟩ := FltP_neg hf htp120 c_33
      refine k_iload_n eX11_text_41 rfl ?_
      refine k_iconst (v := nI 1) eX11_text_42 (by decide) ?_
      refine k_icmp_ne 63 eX11_text_43 (by decide) (fun c_43 => ?_) (fun c_43 => ?_)
      · refine k_iload_n eX11_text_63 rfl ?_
        refine k_iconst (v := nI 2) eX11_text_64 (by decide) ?_
        refine k_icmp_ne 85 eX11_text_65 (by decide) (fun c_65 => ?_) (fun c_65 => ?_)
        · refine k_aload_n eX11_text_85 rfl ?_
          refine GX11_101 eX11_text_86 rfl ?_
          refine GX11_232 eX11_text_89 rfl ?_
          refine k_aload_n eX11_text_92 rfl ?_
          refine GX11_10 eX11_text_93 rfl ?_
          refine cV0 (M' := MX9_become) eX11_text_96 mX11_223 wX9_become vX9_become ⟨_, _, _, rfl, rfl, rfl⟩ rfl (pX9_become45 (S := (si T 11 (nI 0))) (n0 := n1) hn1 hn1b) (by decide) (Nat.le_of_ble_eq_true rfl) ?_
          refine k_iconst (v := nI 1) eX11_text_99 (by decide) ?_
          refine k_ireturn eX11_text_100 rfl rfl ?_
          exact ⟨_, _, rfl, rfl, Or.inr ⟨c_6, f, T, f1, hf, Or.inr ⟨c_33, rfl, n1, hn1, hn1b, by rw [if_neg c_43, if_neg c_65]⟩⟩⟩
        refine k_aload_n eX11_text_68 rfl ?_
        refine GX11_101 eX11_text_69 rfl ?_
        refine GX11_229 eX11_text_72 rfl ?_
        refine k_aload_n eX11_text_75 rfl ?_
        refine GX11_10 eX11_text_76 rfl ?_
        refine cV0 (M' := MX9_become) eX11_text_79 mX11_223 wX9_become vX9_become ⟨_, _, _, rfl, rfl, rfl⟩ rfl (pX9_become42 (S := (si T 11 (nI 0))) (n0 := n1) hn1 hn1b) (by decide) (Nat.le_of_ble_eq_true rfl) ?_
        refine k_goto 99 eX11_text_82 (by decide) ?_
        refine k_iconst (v := nI 1) eX11_text_99 (by decide) ?_
        refine k_ireturn eX11_text_100 rfl rfl ?_
        exact ⟨_, _, rfl, rfl, Or.inr ⟨c_6, f, T, f1, hf, Or.inr ⟨c_33, rfl, n1, hn1, hn1b, by rw [if_neg c_43, if_pos c_65]⟩⟩⟩
      refine k_aload_n eX11_text_46 rfl ?_
      refine GX11_101 eX11_text_47 rfl ?_
      refine GX11_219 eX11_text_50 rfl ?_
      refine k_aload_n eX11_text_53 rfl ?_
      refine GX11_10 eX11_text_54 rfl ?_
      refine cV0 (M' := MX9_become) eX11_text_57 mX11_223 wX9_become vX9_become ⟨_, _, _, rfl, rfl, rfl⟩ rfl (pX9_become39 (S := (si T 11 (nI 0))) (n0 := n1) hn1 hn1b) (by decide) (Nat.le_of_ble_eq_true rfl) ?_
      refine k_goto 99 eX11_text_60 (by decide) ?_
      refine k_iconst (v := nI 1) eX11_text_99 (by decide) ?_
      refine k_ireturn eX11_text_100 rfl rfl ?_
      exact ⟨_, _, rfl, rfl, Or.inr ⟨c_6, f, T, f1, hf, Or.inr ⟨c_33, rfl, n1, hn1, hn1b, by rw [if_pos c_43]⟩⟩⟩
    refine k_bipush (v := (-100)) eX11_text_36 (by decide) ?_
    refine k_iload_n eX11_text_38 rfl ?_
    refine k_isub eX11_text_39 ?_
    refine k_ireturn eX11_text_40 rfl rfl ?_
    exact ⟨_, _, rfl, rfl, Or.inr ⟨c_6, f, T, f1, hf, Or.inl ⟨c_33, rfl, rfl⟩⟩⟩
  refine k_iconst (v := (-1)) eX11_text_9 (by decide) ?_
  refine k_ireturn eX11_text_10 rfl rfl ?_
  exact ⟨_, S, rfl, rfl, Or.inl ⟨c_6, rfl, rfl⟩⟩
