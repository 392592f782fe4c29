def TsOk (S : k_S) (tn : Nat) : Prop := S.1 14 = nI tn ∧ tn ≤ 10 ∧ ∀ i, i < tn → S.2.1 13 i = nI (ix (S.2.1 13 i)) ∧ ix (S.2.1 13 i) < 120
/-- how far off a runner's tests are, together -/
def mis (V : k_V) (td tf : Nat → Int32) (tn r : Nat) : Int32 := sumN (fun i => ab (fitv V r (ix (td i)) / nI 1000 - tf i)) tn
/-- the nearest of n + 1, how far off, all together -/
def whL (f : Nat → Int32) : Nat → Nat × Int32 × Int32
  | 0 => (0, f 0, f 0)
  | n + 1 => if f (n + 1) < (whL f n).2.1 then (n + 1, f (n + 1), (whL f n).2.2 + f (n + 1)) else ((whL f n).1, (whL f n).2.1, (whL f n).2.2 + f (n + 1))
theorem whL_le (f : Nat → Int32) : ∀ n, (whL f n).1 ≤ n
  | 0 => Nat.le_refl _
  | n + 1 => by have := whL_le f n; rw [whL]; split <;> simp <;> omega
def aWho (V : k_V) (td tf : Nat → Int32) (tn rn : Nat) (kr x : Int32) : Int32 := if x = -1 ∨ pW kr x then (if tn = 0 ∨ rn = 0 then -5 else if x = -1 then nI (whL (mis V td tf tn) (rn - 1)).1 else if 0 < (whL (mis V td tf tn) (rn - 1)).2.2 then nI 1000 - nI 1000 * mis V td tf tn (ix x) / (whL (mis V td tf tn) (rn - 1)).2.2 else nI 1000) else -1
set_option maxHeartbeats 400000 in
theorem lX11_missedBy {d : Nat} {Po : Option Value → k_H → Prop} (hdd : 4 ≤ d) {S : k_S} {V : k_V} (hV : vC S = V) (hpl : PlanOk V) {tn : Nat} (hts : TsOk S tn) {r : Nat} (hr : r < 5) (kx : AW none MX11_missedBy d 0 0 53 [.ref 0, .int (nI r), .int (sumN (fun i => ab (fitv V r (ix (S.2.1 13 i)) / nI 1000 - S.2.1 14 i)) tn), .int (nI tn)] [] (hp S) Po) : ∀ (n j : Nat), j + n = tn → AW none MX11_missedBy d 0 0 4 [.ref 0, .int (nI r), .int (sumN (fun i => ab (fitv V r (ix (S.2.1 13 i)) / nI 1000 - S.2.1 14 i)) j), .int (nI j)] [] (hp S) Po := by
  intro n
  induction n with
  | zero =>
    intro j hj
    rw [show j = tn by omega]
    have ht10 := hts.2.1
    refine k_iload_n eX11_missedBy_4 rfl ?_
    refine k_aload_n eX11_missedBy_5 rfl ?_
    refine GX11_44 eX11_missedBy_6 rfl ?_
    refine k_topi (nI tn) hts.1 ?_
    refine k_icmp_geN 53 eX11_missedBy_9 (by decide) (by omega) (by omega) (fun c_9 => ?_) (fun c_9 => by exfalso; omega)
    exact kx
  | succ n ih =>
    intro j hj
    have ht10 := hts.2.1
    have htd := (hts.2.2 j (by omega)).2
    refine k_iload_n eX11_missedBy_4 rfl ?_
    refine k_aload_n eX11_missedBy_5 rfl ?_
    refine GX11_44 eX11_missedBy_6 rfl ?_
    refine k_topi (nI tn) hts.1 ?_
    refine k_icmp_geN 53 eX11_missedBy_9 (by decide) (by omega) (by omega) (fun c_9 => by exfalso; omega) (fun c_9 => ?_)
    refine k_iload_n eX11_missedBy_12 rfl ?_
    refine k_aload_n eX11_missedBy_13 rfl ?_
    refine GX11_83 eX11_missedBy_14 rfl ?_
    refine k_iload_n eX11_missedBy_17 rfl ?_
    refine k_aload_n eX11_missedBy_18 rfl ?_
    refine GX11_38 eX11_missedBy_19 rfl ?_
    refine k_iload_n eX11_missedBy_22 rfl ?_
    refine cS1 (M' := MX11_read) eX11_missedBy_23 mX11_334 wX11_read sX11_read rfl (pX11_readN (j := j) (ar13 _) (by omega) (by decide)) (by omega) (Nat.le_of_ble_eq_true rfl) ?_
    refine k_topi (nI (ix (S.2.1 13 j))) (hts.2.2 j (by omega)).1 ?_
    refine cV1 (M' := MX3_fitOn) eX11_missedBy_26 mX11_268 wX3_fitOn vX3_fitOn ⟨_, _, _, rfl, rfl, rfl⟩ rfl (pX3_fitOn (S := S) (V := V) (r := r) (day := (ix (S.2.1 13 j))) hV hpl (by omega) (by omega)) (by omega) (Nat.le_of_ble_eq_true rfl) ?_
    refine k_sipush (v := nI 1000) eX11_missedBy_29 (by decide) ?_
    refine k_idiv eX11_missedBy_32 (by decide) ?_
    refine k_aload_n eX11_missedBy_33 rfl ?_
    refine GX11_41 eX11_missedBy_34 rfl ?_
    refine k_iload_n eX11_missedBy_37 rfl ?_
    refine cS1 (M' := MX11_read) eX11_missedBy_38 mX11_334 wX11_read sX11_read rfl (pX11_readN (j := j) (ar14 _) (by omega) (by decide)) (by omega) (Nat.le_of_ble_eq_true rfl) ?_
    refine k_isub eX11_missedBy_41 ?_
    refine k_mabs eX11_missedBy_42 mX11_337 (by omega) (Nat.le_of_ble_eq_true rfl) ?_
    refine k_iadd eX11_missedBy_45 ?_
    refine k_istore_n (L2 := [_, _, _, _]) eX11_missedBy_46 (Nat.le_of_ble_eq_true rfl) rfl ?_
    refine k_iincN (g := 1) (a := j) (L2 := [_, _, _, _]) eX11_missedBy_47 (Nat.le_of_ble_eq_true rfl) rfl rfl ?_
    refine k_goto 4 eX11_missedBy_50 (by decide) ?_
    exact ih (j + 1) (by omega)
set_option maxHeartbeats 400000 in
theorem pX11_missedBy {S : k_S} {V : k_V} (hV : vC S = V) (hpl : PlanOk V) {tn : Nat} (hts : TsOk S tn) {r : Nat} (hr : r < 5) : Sp 4 0 0 MX11_missedBy [.ref 0, .int (nI r)] (hp S) (Rt (some (.int (mis V (S.2.1 13) (S.2.1 14) tn r))) (hp S)) := by
  refine Sp_of (by decide +kernel) (Nat.le_of_ble_eq_true rfl) ?_
  show AW none MX11_missedBy 4 0 0 0 [.ref 0, .int (nI r), .null, .null] [] (hp S) _
  refine k_iconst (v := nI 0) eX11_missedBy_0 (by decide) ?_
  refine k_istore_n (L2 := [_, _, _, _]) eX11_missedBy_1 (Nat.le_of_ble_eq_true rfl) rfl ?_
  refine k_iconst (v := nI 0) eX11_missedBy_2 (by decide) ?_
  refine k_istore_n (L2 := [_, _, _, _]) eX11_missedBy_3 (Nat.le_of_ble_eq_true rfl) rfl ?_
  refine lX11_missedBy (by decide) hV hpl hts hr ?_ tn 0 (by omega)
  refine k_iload_n eX11_missedBy_53 rfl ?_
  refine k_ireturn eX11_missedBy_54 rfl rfl ?_
  exact ⟨rfl, rfl⟩
set_option maxHeartbeats 400000 in
theorem lX11_who {d : Nat} {Po : Option Value → k_H → Prop} (hdd : 5 ≤ d) {S : k_S} {V : k_V} (hV : vC S = V) (hpl : PlanOk V) {tn : Nat} (hts : TsOk S tn) {rn : Nat} (hrn : S.1 1003 = nI rn) (hrn5 : rn ≤ 5) (hr0 : 0 < rn) (x : Int32) (kx : AW none MX11_who d 0 0 97 [.ref 0, .int (x), .int (nI ((whL (mis V (S.2.1 13) (S.2.1 14) tn) ((rn - 1))).1)), .int ((whL (mis V (S.2.1 13) (S.2.1 14) tn) ((rn - 1))).2.1), .int ((whL (mis V (S.2.1 13) (S.2.1 14) tn) ((rn - 1))).2.2), .int (nI (((rn - 1)) + 1)), .null] [] (hp S) Po) : ∀ (n j : Nat), j + n = (rn - 1) → AW none MX11_who d 0 0 52 [.ref 0, .int (x), .int (nI ((whL (mis V (S.2.1 13) (S.2.1 14) tn) j).1)), .int ((whL (mis V (S.2.1 13) (S.2.1 14) tn) j).2.1), .int ((whL (mis V (S.2.1 13) (S.2.1 14) tn) j).2.2), .int (nI (j + 1)), .null] [] (hp S) Po := by
  intro n
  induction n with
  | zero =>
    intro j hj
    rw [show j = (rn - 1) by omega]
    refine k_iload eX11_who_52 rfl ?_
    refine k_aload_n eX11_who_54 rfl ?_
    refine GX11_71 eX11_who_55 rfl ?_
    refine GX11_259 eX11_who_58 rfl ?_
    refine k_topi (nI rn) hrn ?_
    refine k_icmp_geN 97 eX11_who_61 (by decide) (by omega) (by omega) (fun c_61 => ?_) (fun c_61 => by exfalso; omega)
    exact kx
  | succ n ih =>
    intro j hj
    refine k_iload eX11_who_52 rfl ?_
    refine k_aload_n eX11_who_54 rfl ?_
    refine GX11_71 eX11_who_55 rfl ?_
    refine GX11_259 eX11_who_58 rfl ?_
    refine k_topi (nI rn) hrn ?_
    refine k_icmp_geN 97 eX11_who_61 (by decide) (by omega) (by omega) (fun c_61 => by exfalso; omega) (fun c_61 => ?_)
    refine k_aload_n eX11_who_64 rfl ?_
    refine k_iload eX11_who_65 rfl ?_
    refine cV1 (M' := MX11_missedBy) eX11_who_67 mX11_262 wX11_missedBy vX11_missedBy ⟨_, _, _, rfl, rfl, rfl⟩ rfl (pX11_missedBy (S := S) (V := V) (tn := tn) (r := (j + 1)) hV hpl hts (by omega)) (by omega) (Nat.le_of_ble_eq_true rfl) ?_
    refine k_istore (L2 := [_, _, _, _, _, _, _]) eX11_who_70 (Nat.le_of_ble_eq_true rfl) rfl ?_
    refine k_iload eX11_who_72 rfl ?_
    refine k_iload eX11_who_74 rfl ?_
    refine k_iadd eX11_who_76 ?_
    refine k_istore (L2 := [_, _, _, _, _, _, _]) eX11_who_77 (Nat.le_of_ble_eq_true rfl) rfl ?_
    refine k_iload eX11_who_79 rfl ?_
    refine k_iload_n eX11_who_81 rfl ?_
    refine k_icmp_ge 91 eX11_who_82 (by decide) (fun c_82 => ?_) (fun c_82 => ?_)
    · refine k_iincN (g := 1) (a := (j + 1)) (L2 := [_, _, _, _, _, _, _]) eX11_who_91 (Nat.le_of_ble_eq_true rfl) rfl rfl ?_
      refine k_goto 52 eX11_who_94 (by decide) ?_
      refine k_forget 6 (L2 := [_, _, _, _, _, _, _]) rfl ?_
      have q := ih (j + 1) (by omega)
      rw [whL] at q
      first | (rw [if_neg (Int32.not_lt.mpr c_82)] at q; exact q) | (rw [if_pos (Int32.not_le.mp c_82)] at q; exact q)
    refine k_iload eX11_who_85 rfl ?_
    refine k_istore_n (L2 := [_, _, _, _, _, _, _]) eX11_who_87 (Nat.le_of_ble_eq_true rfl) rfl ?_
    refine k_iload eX11_who_88 rfl ?_
    refine k_istore_n (L2 := [_, _, _, _, _, _, _]) eX11_who_90 (Nat.le_of_ble_eq_true rfl) rfl ?_
    refine k_iincN (g := 1) (a := (j + 1)) (L2 := [_, _, _, _, _, _, _]) eX11_who_91 (Nat.le_of_ble_eq_true rfl) rfl rfl ?_
    refine k_goto 52 eX11_who_94 (by decide) ?_
    refine k_forget 6 (L2 := [_, _, _, _, _, _, _]) rfl ?_
    have q := ih (j + 1) (by omega)
    rw [whL] at q
    first | (rw [if_neg (Int32.not_lt.mpr c_82)] at q; exact q) | (rw [if_pos (Int32.not_le.mp c_82)] at q; exact q)
set_option maxHeartbeats 400000 in
theorem pX11_who {S : k_S} {V : k_V} (hV : vC S = V) (hpl : PlanOk V) {tn : Nat} (hts : TsOk S tn) {rn : Nat} (hrn : S.1 1003 = nI rn) (hrn5 : rn ≤ 5) (x : Int32) : Sp 5 0 0 MX11_who [.ref 0, .int (x)] (hp S) (Rt (some (.int (aWho V (S.2.1 13) (S.2.1 14) tn rn (S.1 1003) x))) (hp S)) := by
  refine Sp_of (by decide +kernel) (Nat.le_of_ble_eq_true rfl) ?_
  show AW none MX11_who 5 0 0 0 [.ref 0, .int (x), .null, .null, .null, .null, .null] [] (hp S) _
  refine k_iload_n eX11_who_0 rfl ?_
  refine k_iconst (v := (-1)) eX11_who_1 (by decide) ?_
  refine k_icmp_eq 18 eX11_who_2 (by decide) (fun c_2 => ?_) (fun c_2 => ?_)
  · have ht10 := hts.2.1
    refine k_aload_n eX11_who_18 rfl ?_
    refine GX11_44 eX11_who_19 rfl ?_
    refine k_topi (nI tn) hts.1 ?_
    refine k_if_eqN 35 eX11_who_22 (by decide) (by omega) (fun c_22 => ?_) (fun c_22 => ?_)
    · refine k_bipush (v := (-5)) eX11_who_35 (by decide) ?_
      refine k_ireturn eX11_who_37 rfl rfl ?_
      exact ⟨by rw [aWho, if_pos (by first | exact Or.inl c_2 | exact Or.inr c_13), if_pos (by omega)], rfl⟩
    refine k_aload_n eX11_who_25 rfl ?_
    refine GX11_71 eX11_who_26 rfl ?_
    refine GX11_259 eX11_who_29 rfl ?_
    refine k_topi (nI rn) hrn ?_
    refine k_if_neN 38 eX11_who_32 (by decide) (by omega) (fun c_32 => ?_) (fun c_32 => ?_)
    · refine k_iconst (v := nI 0) eX11_who_38 (by decide) ?_
      refine k_istore_n (L2 := [_, _, _, _, _, _, _]) eX11_who_39 (Nat.le_of_ble_eq_true rfl) rfl ?_
      refine k_aload_n eX11_who_40 rfl ?_
      refine k_iconst (v := nI 0) eX11_who_41 (by decide) ?_
      refine cV1 (M' := MX11_missedBy) eX11_who_42 mX11_262 wX11_missedBy vX11_missedBy ⟨_, _, _, rfl, rfl, rfl⟩ rfl (pX11_missedBy (S := S) (V := V) (tn := tn) (r := 0) hV hpl hts (by omega)) (by decide) (Nat.le_of_ble_eq_true rfl) ?_
      refine k_istore_n (L2 := [_, _, _, _, _, _, _]) eX11_who_45 (Nat.le_of_ble_eq_true rfl) rfl ?_
      refine k_iload_n eX11_who_46 rfl ?_
      refine k_istore (L2 := [_, _, _, _, _, _, _]) eX11_who_47 (Nat.le_of_ble_eq_true rfl) rfl ?_
      refine k_iconst (v := nI 1) eX11_who_49 (by decide) ?_
      refine k_istore (L2 := [_, _, _, _, _, _, _]) eX11_who_50 (Nat.le_of_ble_eq_true rfl) rfl ?_
      have hr0 : 0 < rn := by omega
      refine k_loc (L2 := [_, _, .int (nI (whL (mis V (S.2.1 13) (S.2.1 14) tn) 0).1), _, _, .int (nI (0 + 1)), _]) rfl ?_
      refine lX11_who (by decide) hV hpl hts hrn hrn5 hr0 x ?_ (rn - 1) 0 (by omega)
      refine k_iload_n eX11_who_97 rfl ?_
      refine k_iconst (v := (-1)) eX11_who_98 (by decide) ?_
      refine k_icmp_ne 104 eX11_who_99 (by decide) (fun c_99 => ?_) (fun c_99 => ?_)
      · refine k_iload eX11_who_104 rfl ?_
        refine k_if_gt 115 eX11_who_106 (by decide) (fun c_106 => ?_) (fun c_106 => ?_)
        · have hx : pW (S.1 1003) x := by first | exact c_13 | exact absurd c_2 c_99
          obtain ⟨u, hu, rfl⟩ := pW_ex hx hrn (by omega)
          refine k_sipush (v := nI 1000) eX11_who_115 (by decide) ?_
          refine k_sipush (v := nI 1000) eX11_who_118 (by decide) ?_
          refine k_aload_n eX11_who_121 rfl ?_
          refine k_iload_n eX11_who_122 rfl ?_
          refine cV1 (M' := MX11_missedBy) eX11_who_123 mX11_262 wX11_missedBy vX11_missedBy ⟨_, _, _, rfl, rfl, rfl⟩ rfl (pX11_missedBy (S := S) (V := V) (tn := tn) (r := u) hV hpl hts (by omega)) (by decide) (Nat.le_of_ble_eq_true rfl) ?_
          refine k_imul eX11_who_126 ?_
          refine k_iload eX11_who_127 rfl ?_
          refine k_idiv eX11_who_129 (fun q => by rw [q] at c_106; exact absurd c_106 (by decide)) ?_
          refine k_isub eX11_who_130 ?_
          refine k_ireturn eX11_who_131 rfl rfl ?_
          exact ⟨by rw [aWho, if_pos (by first | exact Or.inl c_2 | exact Or.inr c_13), if_neg (by omega), if_neg c_99, if_pos c_106, ix_nI (by omega)], rfl⟩
        refine k_sipush (v := nI 1000) eX11_who_109 (by decide) ?_
        refine k_goto 131 eX11_who_112 (by decide) ?_
        refine k_ireturn eX11_who_131 rfl rfl ?_
        exact ⟨by rw [aWho, if_pos (by first | exact Or.inl c_2 | exact Or.inr c_13), if_neg (by omega), if_neg c_99, if_neg c_106], rfl⟩
      refine k_iload_n eX11_who_102 rfl ?_
      refine k_ireturn eX11_who_103 rfl rfl ?_
      exact ⟨by rw [aWho, if_pos (by first | exact Or.inl c_2 | exact Or.inr c_13), if_neg (by omega), if_pos (by first | exact c_99 | exact Decidable.not_not.mp c_99)], rfl⟩
    refine k_bipush (v := (-5)) eX11_who_35 (by decide) ?_
    refine k_ireturn eX11_who_37 rfl rfl ?_
    exact ⟨by rw [aWho, if_pos (by first | exact Or.inl c_2 | exact Or.inr c_13), if_pos (by omega)], rfl⟩
  refine k_aload_n eX11_who_5 rfl ?_
  refine GX11_71 eX11_who_6 rfl ?_
  refine k_iload_n eX11_who_9 rfl ?_
  refine cV1 (M' := MX8_has) eX11_who_10 mX11_175 wX8_has vX8_has ⟨_, _, _, rfl, rfl, rfl⟩ rfl (pX8_has (S := S) (x)) (by decide) (Nat.le_of_ble_eq_true rfl) ?_
  refine k_ifb_ne 18 eX11_who_13 (by decide) (fun c_13 => ?_) (fun c_13 => ?_)
  · have ht10 := hts.2.1
    refine k_aload_n eX11_who_18 rfl ?_
    refine GX11_44 eX11_who_19 rfl ?_
    refine k_topi (nI tn) hts.1 ?_
    refine k_if_eqN 35 eX11_who_22 (by decide) (by omega) (fun c_22 => ?_) (fun c_22 => ?_)
    · refine k_bipush (v := (-5)) eX11_who_35 (by decide) ?_
      refine k_ireturn eX11_who_37 rfl rfl ?_
      exact ⟨by rw [aWho, if_pos (by first | exact Or.inl c_2 | exact Or.inr c_13), if_pos (by omega)], rfl⟩
    refine k_aload_n eX11_who_25 rfl ?_
    refine GX11_71 eX11_who_26 rfl ?_
    refine GX11_259 eX11_who_29 rfl ?_
    refine k_topi (nI rn) hrn ?_
    refine k_if_neN 38 eX11_who_32 (by decide) (by omega) (fun c_32 => ?_) (fun c_32 => ?_)
    · refine k_iconst (v := nI 0) eX11_who_38 (by decide) ?_
      refine k_istore_n (L2 := [_, _, _, _, _, _, _]) eX11_who_39 (Nat.le_of_ble_eq_true rfl) rfl ?_
      refine k_aload_n eX11_who_40 rfl ?_
      refine k_iconst (v := nI 0) eX11_who_41 (by decide) ?_
      refine cV1 (M' := MX11_missedBy) eX11_who_42 mX11_262 wX11_missedBy vX11_missedBy ⟨_, _, _, rfl, rfl, rfl⟩ rfl (pX11_missedBy (S := S) (V := V) (tn := tn) (r := 0) hV hpl hts (by omega)) (by decide) (Nat.le_of_ble_eq_true rfl) ?_
      refine k_istore_n (L2 := [_, _, _, _, _, _, _]) eX11_who_45 (Nat.le_of_ble_eq_true rfl) rfl ?_
      refine k_iload_n eX11_who_46 rfl ?_
      refine k_istore (L2 := [_, _, _, _, _, _, _]) eX11_who_47 (Nat.le_of_ble_eq_true rfl) rfl ?_
      refine k_iconst (v := nI 1) eX11_who_49 (by decide) ?_
      refine k_istore (L2 := [_, _, _, _, _, _, _]) eX11_who_50 (Nat.le_of_ble_eq_true rfl) rfl ?_
      have hr0 : 0 < rn := by omega
      refine k_loc (L2 := [_, _, .int (nI (whL (mis V (S.2.1 13) (S.2.1 14) tn) 0).1), _, _, .int (nI (0 + 1)), _]) rfl ?_
      refine lX11_who (by decide) hV hpl hts hrn hrn5 hr0 x ?_ (rn - 1) 0 (by omega)
      refine k_iload_n eX11_who_97 rfl ?_
      refine k_iconst (v := (-1)) eX11_who_98 (by decide) ?_
      refine k_icmp_ne 104 eX11_who_99 (by decide) (fun c_99 => ?_) (fun c_99 => ?_)
      · refine k_iload eX11_who_104 rfl ?_
        refine k_if_gt 115 eX11_who_106 (by decide) (fun c_106 => ?_) (fun c_106 => ?_)
        · have hx : pW (S.1 1003) x := by first | exact c_13 | exact absurd c_2 c_99
          obtain ⟨u, hu, rfl⟩ := pW_ex hx hrn (by omega)
          refine k_sipush (v := nI 1000) eX11_who_115 (by decide) ?_
          refine k_sipush (v := nI 1000) eX11_who_118 (by decide) ?_
          refine k_aload_n eX11_who_121 rfl ?_
          refine k_iload_n eX11_who_122 rfl ?_
          refine cV1 (M' := MX11_missedBy) eX11_who_123 mX11_262 wX11_missedBy vX11_missedBy ⟨_, _, _, rfl, rfl, rfl⟩ rfl (pX11_missedBy (S := S) (V := V) (tn := tn) (r := u) hV hpl hts (by omega)) (by decide) (Nat.le_of_ble_eq_true rfl) ?_
          refine k_imul eX11_who_126 ?_
          refine k_iload eX11_who_127 rfl ?_
          refine k_idiv eX11_who_129 (fun q => by rw [q] at c_106; exact absurd c_106 (by decide)) ?_
          refine k_isub eX11_who_130 ?_
          refine k_ireturn eX11_who_131 rfl rfl ?_
          exact ⟨by rw [aWho, if_pos (by first | exact Or.inl c_2 | exact Or.inr c_13), if_neg (by omega), if_neg c_99, if_pos c_106, ix_nI (by omega)], rfl⟩
        refine k_sipush (v := nI 1000) eX11_who_109 (by decide) ?_
        refine k_goto 131 eX11_who_112 (by decide) ?_
        refine k_ireturn eX11_who_131 rfl rfl ?_
        exact ⟨by rw [aWho, if_pos (by first | exact Or.inl c_2 | exact Or.inr c_13), if_neg (by omega), if_neg c_99, if_neg c_106], rfl⟩
      refine k_iload_n eX11_who_102 rfl ?_
      refine k_ireturn eX11_who_103 rfl rfl ?_
      exact ⟨by rw [aWho, if_pos (by first | exact Or.inl c_2 | exact Or.inr c_13), if_neg (by omega), if_pos (by first | exact c_99 | exact Decidable.not_not.mp c_99)], rfl⟩
    refine k_bipush (v := (-5)) eX11_who_35 (by decide) ?_
    refine k_ireturn eX11_who_37 rfl rfl ?_
    exact ⟨by rw [aWho, if_pos (by first | exact Or.inl c_2 | exact Or.inr c_13), if_pos (by omega)], rfl⟩
  refine k_iconst (v := (-1)) eX11_who_16 (by decide) ?_
  refine k_ireturn eX11_who_17 rfl rfl ?_
  exact ⟨by rw [aWho, if_neg (fun q => q.elim c_2 c_13)], rfl⟩
