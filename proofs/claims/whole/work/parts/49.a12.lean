/-- on how many days of the week one works, j days behind the first; the plan's row, j days told -/
def wkN (s e j : Nat) : Nat := if s < 10 then e / 10 else min 7 (e / 10 + j / 7 * (e % 10) / 4)
def shF (f : Nat → Int32) (s e o : Nat) : Nat → Nat → Int32
  | 0 => f
  | j + 1 => if j % 7 < wkN s e j then va_up (shF f s e o j) (o + j) (nI (s % 10)) else shF f s e o j
abbrev pShp (kw s e x : Int32) : Prop := (pIn s (nI 0) (nI 19) ∧ pW kw (rm s (nI 10))) ∧ ¬ e < 0 ∧ pIn (e / nI 10) (nI 0) (nI 7) ∧ pIn (rm e (nI 10)) (nI 0) (nI 7) ∧ pSpn x
def clS (S : k_S) : k_S := si (si S 1656 (nI 0)) 1657 (nI 0)
def shR (S : k_S) (s e x : Int32) : Nat → Int32 := shF (restN (S.2.1 25) 120) (ix s) (ix e) (rrN x) (ddN x + 1 - rrN x)
def aShp (S : k_S) (kw s e x : Int32) : Int32 := if pShp kw s e x then nI (cnt (shR S s e x) 0 120) else -1
def sShp (S : k_S) (s e x : Int32) : k_S := if pShp (S.1 803) s e x then sa (clS S) 25 (shR S s e x) else S
theorem pShp_ex {kw s e x : Int32} {wk : Nat} (h : pShp kw s e x) (hk : kw = nI wk) (hwk : wk ≤ 6) : ∃ u v z, u ≤ 19 ∧ v < 2 ^ 31 ∧ z < 2 ^ 31 ∧ s = nI u ∧ e = nI v ∧ x = nI z ∧ u % 10 < wk ∧ v / 10 ≤ 7 ∧ v % 10 ≤ 7 ∧ z / 1000 < 120 ∧ z % 1000 < 120 ∧ z / 1000 ≤ z % 1000 := by
  obtain ⟨⟨h1, h2⟩, h3, h4, h5, h6⟩ := h
  obtain ⟨u, hu, rfl⟩ := k_rngle h1.1 h1.2 (by decide)
  obtain ⟨v, hv, rfl⟩ := k_nneg h3
  obtain ⟨z, hz, rfl, hz1, hz2, hz3⟩ := pSpn_ex h6
  rw [(dmN (by omega) (by decide) (by decide)).2, hk, pW_N (by omega) (by omega)] at h2
  rw [(dmN hv (by decide) (by decide)).1] at h4
  have e2 := Int32.le_iff_toInt_le.mp h4.2
  rw [nI_toInt (by omega), nI_toInt (by omega)] at e2
  rw [(dmN hv (by decide) (by decide)).2] at h5
  have e3 := Int32.le_iff_toInt_le.mp h5.2
  rw [nI_toInt (by omega), nI_toInt (by omega)] at e3
  exact ⟨u, v, z, hu, hv, hz, rfl, rfl, rfl, h2, by omega, by omega, hz1, hz2, hz3⟩
set_option maxHeartbeats 400000 in
theorem lX11_shape {d : Nat} {Po : Option Value → k_H → Prop} (hdd : 2 ≤ d) {C : k_S} {f : Nat → Int32} {u v z : Nat} (hu : u ≤ 19) (hv31 : v < 2 ^ 31) (hv1 : v / 10 ≤ 7) (hv2 : v % 10 ≤ 7) (hz31 : z < 2 ^ 31) (hz1 : z / 1000 ≤ z % 1000) (hz2 : z % 1000 < 120) (kx : AW none MX11_shape d 0 0 176 [.ref 0, .int (nI u), .int (nI v), .int (nI z), .int (nI (z / 1000)), .int (nI (z / 1000 + ((z % 1000 + 1 - z / 1000)))), .null, .null] [] (hp (sa C 25 (shF f u v (z / 1000) ((z % 1000 + 1 - z / 1000))))) Po) : ∀ (n j : Nat), j + n = (z % 1000 + 1 - z / 1000) → AW none MX11_shape d 0 0 90 [.ref 0, .int (nI u), .int (nI v), .int (nI z), .int (nI (z / 1000)), .int (nI (z / 1000 + j)), .null, .null] [] (hp (sa C 25 (shF f u v (z / 1000) j))) Po := by
  intro n
  induction n with
  | zero =>
    intro j hj
    rw [show j = (z % 1000 + 1 - z / 1000) by omega]
    refine k_iload eX11_shape_90 rfl ?_
    refine k_iload_n eX11_shape_92 rfl ?_
    refine k_sipush (v := nI 1000) eX11_shape_93 (by decide) ?_
    refine k_iremN eX11_shape_96 (by omega) (by omega) (by omega) ?_
    refine k_icmp_gtN 176 eX11_shape_97 (by decide) (by omega) (by omega) (fun c_97 => ?_) (fun c_97 => by exfalso; omega)
    exact kx
  | succ n ih =>
    intro j hj
    obtain ⟨T, hT⟩ : ∃ T, (sa C 25 (shF f u v (z / 1000) j)) = T := ⟨_, rfl⟩
    rw [hT]
    have hml : j / 7 * (v % 10) ≤ 17 * 7 := Nat.mul_le_mul (by omega) (by omega)
    refine k_iload eX11_shape_90 rfl ?_
    refine k_iload_n eX11_shape_92 rfl ?_
    refine k_sipush (v := nI 1000) eX11_shape_93 (by decide) ?_
    refine k_iremN eX11_shape_96 (by omega) (by omega) (by omega) ?_
    refine k_icmp_gtN 176 eX11_shape_97 (by decide) (by omega) (by omega) (fun c_97 => by exfalso; omega) (fun c_97 => ?_)
    refine k_iload eX11_shape_100 rfl ?_
    refine k_iload eX11_shape_102 rfl ?_
    refine k_isubN eX11_shape_104 (by omega) ?_
    refine k_topi (nI j) (by rw [Nat.add_sub_cancel_left]) ?_
    refine k_bipush (v := nI 7) eX11_shape_105 (by decide) ?_
    refine k_idivN eX11_shape_107 (by omega) (by omega) (by omega) ?_
    refine k_istore (L2 := [_, _, _, _, _, _, _, _]) eX11_shape_108 (Nat.le_of_ble_eq_true rfl) rfl ?_
    refine k_iload_n eX11_shape_110 rfl ?_
    refine k_bipush (v := nI 10) eX11_shape_111 (by decide) ?_
    refine k_icmp_geN 123 eX11_shape_113 (by decide) (by omega) (by omega) (fun c_113 => ?_) (fun c_113 => ?_)
    · refine k_bipush (v := nI 7) eX11_shape_123 (by decide) ?_
      refine k_iload_n eX11_shape_125 rfl ?_
      refine k_bipush (v := nI 10) eX11_shape_126 (by decide) ?_
      refine k_idivN eX11_shape_128 (by omega) (by omega) (by omega) ?_
      refine k_iload eX11_shape_129 rfl ?_
      refine k_iload_n eX11_shape_131 rfl ?_
      refine k_bipush (v := nI 10) eX11_shape_132 (by decide) ?_
      refine k_iremN eX11_shape_134 (by omega) (by omega) (by omega) ?_
      refine k_imulN eX11_shape_135 ?_
      refine k_iconst (v := nI 4) eX11_shape_136 (by decide) ?_
      refine k_idivN eX11_shape_137 (by omega) (by omega) (by omega) ?_
      refine k_iaddN eX11_shape_138 ?_
      refine k_mmin eX11_shape_139 mX11_152 (by omega) (Nat.le_of_ble_eq_true rfl) ?_
      refine k_topi (nI (min 7 (v / 10 + j / 7 * (v % 10) / 4))) (mn_nI (by omega) (by omega)) ?_
      refine k_istore (L2 := [_, _, _, _, _, _, _, _]) eX11_shape_142 (Nat.le_of_ble_eq_true rfl) rfl ?_
      refine k_iload eX11_shape_144 rfl ?_
      refine k_iload eX11_shape_146 rfl ?_
      refine k_isubN eX11_shape_148 (by omega) ?_
      refine k_topi (nI j) (by rw [Nat.add_sub_cancel_left]) ?_
      refine k_bipush (v := nI 7) eX11_shape_149 (by decide) ?_
      refine k_iremN eX11_shape_151 (by omega) (by omega) (by omega) ?_
      refine k_iload eX11_shape_152 rfl ?_
      refine k_icmp_geN 170 eX11_shape_154 (by decide) (by omega) (by omega) (fun c_154 => ?_) (fun c_154 => ?_)
      · refine k_iincN (g := 1) (a := (z / 1000 + j)) (L2 := [_, _, _, _, _, _, _, _]) eX11_shape_170 (Nat.le_of_ble_eq_true rfl) rfl rfl ?_
        refine k_goto 90 eX11_shape_173 (by decide) ?_
        refine k_forget 6 (L2 := [_, _, _, _, _, _, _, _]) rfl ?_
        refine k_forget 7 (L2 := [_, _, _, _, _, _, _, _]) rfl ?_
        have q := ih (j + 1) (by omega)
        rw [shF] at q
        first | (rw [if_neg (by unfold wkN; rw [if_pos (by omega)]; omega)] at q; subst hT; rw [sa_sa, sa_at]; exact q) | (rw [if_neg (by unfold wkN; rw [if_pos (by omega)]; omega)] at q; subst hT; exact q) | (rw [if_neg (by unfold wkN; rw [if_neg (by omega)]; omega)] at q; subst hT; rw [sa_sa, sa_at]; exact q) | (rw [if_neg (by unfold wkN; rw [if_neg (by omega)]; omega)] at q; subst hT; exact q) | (rw [if_pos (by unfold wkN; rw [if_pos (by omega)]; omega)] at q; subst hT; rw [sa_sa, sa_at]; exact q) | (rw [if_pos (by unfold wkN; rw [if_pos (by omega)]; omega)] at q; subst hT; exact q) | (rw [if_pos (by unfold wkN; rw [if_neg (by omega)]; omega)] at q; subst hT; rw [sa_sa, sa_at]; exact q) | (rw [if_pos (by unfold wkN; rw [if_neg (by omega)]; omega)] at q; subst hT; exact q)
      refine k_aload_n eX11_shape_157 rfl ?_
      refine GX11_75 eX11_shape_158 rfl ?_
      refine k_iload eX11_shape_161 rfl ?_
      refine k_iload_n eX11_shape_163 rfl ?_
      refine k_bipush (v := nI 10) eX11_shape_164 (by decide) ?_
      refine k_iremN eX11_shape_166 (by omega) (by omega) (by omega) ?_
      refine cV0 (M' := MX2_set) eX11_shape_167 mX11_142 wX2_set vX2_set ⟨_, _, _, rfl, rfl, rfl⟩ rfl (pX2_set (S := T) (j := (z / 1000 + j)) (nI (u % 10)) (by omega)) (by omega) (Nat.le_of_ble_eq_true rfl) ?_
      refine k_iincN (g := 1) (a := (z / 1000 + j)) (L2 := [_, _, _, _, _, _, _, _]) eX11_shape_170 (Nat.le_of_ble_eq_true rfl) rfl rfl ?_
      refine k_goto 90 eX11_shape_173 (by decide) ?_
      refine k_forget 6 (L2 := [_, _, _, _, _, _, _, _]) rfl ?_
      refine k_forget 7 (L2 := [_, _, _, _, _, _, _, _]) rfl ?_
      have q := ih (j + 1) (by omega)
      rw [shF] at q
      first | (rw [if_neg (by unfold wkN; rw [if_pos (by omega)]; omega)] at q; subst hT; rw [sa_sa, sa_at]; exact q) | (rw [if_neg (by unfold wkN; rw [if_pos (by omega)]; omega)] at q; subst hT; exact q) | (rw [if_neg (by unfold wkN; rw [if_neg (by omega)]; omega)] at q; subst hT; rw [sa_sa, sa_at]; exact q) | (rw [if_neg (by unfold wkN; rw [if_neg (by omega)]; omega)] at q; subst hT; exact q) | (rw [if_pos (by unfold wkN; rw [if_pos (by omega)]; omega)] at q; subst hT; rw [sa_sa, sa_at]; exact q) | (rw [if_pos (by unfold wkN; rw [if_pos (by omega)]; omega)] at q; subst hT; exact q) | (rw [if_pos (by unfold wkN; rw [if_neg (by omega)]; omega)] at q; subst hT; rw [sa_sa, sa_at]; exact q) | (rw [if_pos (by unfold wkN; rw [if_neg (by omega)]; omega)] at q; subst hT; exact q)
    refine k_iload_n eX11_shape_116 rfl ?_
    refine k_bipush (v := nI 10) eX11_shape_117 (by decide) ?_
    refine k_idivN eX11_shape_119 (by omega) (by omega) (by omega) ?_
    refine k_goto 142 eX11_shape_120 (by decide) ?_
    refine k_istore (L2 := [_, _, _, _, _, _, _, _]) eX11_shape_142 (Nat.le_of_ble_eq_true rfl) rfl ?_
    refine k_iload eX11_shape_144 rfl ?_
    refine k_iload eX11_shape_146 rfl ?_
    refine k_isubN eX11_shape_148 (by omega) ?_
    refine k_topi (nI j) (by rw [Nat.add_sub_cancel_left]) ?_
    refine k_bipush (v := nI 7) eX11_shape_149 (by decide) ?_
    refine k_iremN eX11_shape_151 (by omega) (by omega) (by omega) ?_
    refine k_iload eX11_shape_152 rfl ?_
    refine k_icmp_geN 170 eX11_shape_154 (by decide) (by omega) (by omega) (fun c_154 => ?_) (fun c_154 => ?_)
    · refine k_iincN (g := 1) (a := (z / 1000 + j)) (L2 := [_, _, _, _, _, _, _, _]) eX11_shape_170 (Nat.le_of_ble_eq_true rfl) rfl rfl ?_
      refine k_goto 90 eX11_shape_173 (by decide) ?_
      refine k_forget 6 (L2 := [_, _, _, _, _, _, _, _]) rfl ?_
      refine k_forget 7 (L2 := [_, _, _, _, _, _, _, _]) rfl ?_
      have q := ih (j + 1) (by omega)
      rw [shF] at q
      first | (rw [if_neg (by unfold wkN; rw [if_pos (by omega)]; omega)] at q; subst hT; rw [sa_sa, sa_at]; exact q) | (rw [if_neg (by unfold wkN; rw [if_pos (by omega)]; omega)] at q; subst hT; exact q) | (rw [if_neg (by unfold wkN; rw [if_neg (by omega)]; omega)] at q; subst hT; rw [sa_sa, sa_at]; exact q) | (rw [if_neg (by unfold wkN; rw [if_neg (by omega)]; omega)] at q; subst hT; exact q) | (rw [if_pos (by unfold wkN; rw [if_pos (by omega)]; omega)] at q; subst hT; rw [sa_sa, sa_at]; exact q) | (rw [if_pos (by unfold wkN; rw [if_pos (by omega)]; omega)] at q; subst hT; exact q) | (rw [if_pos (by unfold wkN; rw [if_neg (by omega)]; omega)] at q; subst hT; rw [sa_sa, sa_at]; exact q) | (rw [if_pos (by unfold wkN; rw [if_neg (by omega)]; omega)] at q; subst hT; exact q)
    refine k_aload_n eX11_shape_157 rfl ?_
    refine GX11_75 eX11_shape_158 rfl ?_
    refine k_iload eX11_shape_161 rfl ?_
    refine k_iload_n eX11_shape_163 rfl ?_
    refine k_bipush (v := nI 10) eX11_shape_164 (by decide) ?_
    refine k_iremN eX11_shape_166 (by omega) (by omega) (by omega) ?_
    refine cV0 (M' := MX2_set) eX11_shape_167 mX11_142 wX2_set vX2_set ⟨_, _, _, rfl, rfl, rfl⟩ rfl (pX2_set (S := T) (j := (z / 1000 + j)) (nI (u % 10)) (by omega)) (by omega) (Nat.le_of_ble_eq_true rfl) ?_
    refine k_iincN (g := 1) (a := (z / 1000 + j)) (L2 := [_, _, _, _, _, _, _, _]) eX11_shape_170 (Nat.le_of_ble_eq_true rfl) rfl rfl ?_
    refine k_goto 90 eX11_shape_173 (by decide) ?_
    refine k_forget 6 (L2 := [_, _, _, _, _, _, _, _]) rfl ?_
    refine k_forget 7 (L2 := [_, _, _, _, _, _, _, _]) rfl ?_
    have q := ih (j + 1) (by omega)
    rw [shF] at q
    first | (rw [if_neg (by unfold wkN; rw [if_pos (by omega)]; omega)] at q; subst hT; rw [sa_sa, sa_at]; exact q) | (rw [if_neg (by unfold wkN; rw [if_pos (by omega)]; omega)] at q; subst hT; exact q) | (rw [if_neg (by unfold wkN; rw [if_neg (by omega)]; omega)] at q; subst hT; rw [sa_sa, sa_at]; exact q) | (rw [if_neg (by unfold wkN; rw [if_neg (by omega)]; omega)] at q; subst hT; exact q) | (rw [if_pos (by unfold wkN; rw [if_pos (by omega)]; omega)] at q; subst hT; rw [sa_sa, sa_at]; exact q) | (rw [if_pos (by unfold wkN; rw [if_pos (by omega)]; omega)] at q; subst hT; exact q) | (rw [if_pos (by unfold wkN; rw [if_neg (by omega)]; omega)] at q; subst hT; rw [sa_sa, sa_at]; exact q) | (rw [if_pos (by unfold wkN; rw [if_neg (by omega)]; omega)] at q; subst hT; exact q)
set_option maxHeartbeats 400000 in
theorem pX11_shape {S : k_S} {wk : Nat} (hwk : S.1 803 = nI wk) (hwk1 : 1 ≤ wk) (hwk6 : wk ≤ 6) (s e x : Int32) : Sp 3 0 0 MX11_shape [.ref 0, .int (s), .int (e), .int (x)] (hp S) (Rt (some (.int (aShp S (S.1 803) s e x))) (hp (sShp S s e x))) := by
  refine Sp_of (by decide +kernel) (Nat.le_of_ble_eq_true rfl) ?_
  show AW none MX11_shape 3 0 0 0 [.ref 0, .int (s), .int (e), .int (x), .null, .null, .null, .null] [] (hp S) _
  refine k_iload_n eX11_shape_0 rfl ?_
  refine k_iconst (v := nI 0) eX11_shape_1 (by decide) ?_
  refine k_bipush (v := nI 19) eX11_shape_2 (by decide) ?_
  refine cS1 (M' := MX11_within) eX11_shape_4 mX11_114 wX11_within sX11_within rfl (pX11_within (s) (nI 0) (nI 19)) (by decide) (Nat.le_of_ble_eq_true rfl) ?_
  refine k_ifb_eq 24 eX11_shape_7 (by decide) (fun c_7 => ?_) (fun c_7 => ?_)
  · refine k_iconst (v := (-1)) eX11_shape_24 (by decide) ?_
    refine k_ireturn eX11_shape_25 rfl rfl ?_
    exact ⟨by rw [aShp, if_neg (fun q => by first | exact c_7 q.1.1 | exact c_21 q.1.2 | exact q.2.1 c_27 | exact c_40 q.2.2.1 | exact c_53 q.2.2.2.1 | exact c_60 q.2.2.2.2)], by rw [sShp, if_neg (fun q => by first | exact c_7 q.1.1 | exact c_21 q.1.2 | exact q.2.1 c_27 | exact c_40 q.2.2.1 | exact c_53 q.2.2.2.1 | exact c_60 q.2.2.2.2)]⟩
  refine k_aload_n eX11_shape_10 rfl ?_
  refine GX11_67 eX11_shape_11 rfl ?_
  refine k_iload_n eX11_shape_14 rfl ?_
  refine k_bipush (v := nI 10) eX11_shape_15 (by decide) ?_
  refine k_irem eX11_shape_17 (by decide) ?_
  refine cV1 (M' := MX10_has) eX11_shape_18 mX11_110 wX10_has vX10_has ⟨_, _, _, rfl, rfl, rfl⟩ rfl (pX10_has (S := S) ((s - s / nI 10 * nI 10))) (by decide) (Nat.le_of_ble_eq_true rfl) ?_
  refine k_ifb_ne 26 eX11_shape_21 (by decide) (fun c_21 => ?_) (fun c_21 => ?_)
  · refine k_iload_n eX11_shape_26 rfl ?_
    refine k_if_lt 63 eX11_shape_27 (by decide) (fun c_27 => ?_) (fun c_27 => ?_)
    · refine k_iconst (v := (-1)) eX11_shape_63 (by decide) ?_
      refine k_ireturn eX11_shape_64 rfl rfl ?_
      exact ⟨by rw [aShp, if_neg (fun q => by first | exact c_7 q.1.1 | exact c_21 q.1.2 | exact q.2.1 c_27 | exact c_40 q.2.2.1 | exact c_53 q.2.2.2.1 | exact c_60 q.2.2.2.2)], by rw [sShp, if_neg (fun q => by first | exact c_7 q.1.1 | exact c_21 q.1.2 | exact q.2.1 c_27 | exact c_40 q.2.2.1 | exact c_53 q.2.2.2.1 | exact c_60 q.2.2.2.2)]⟩
    refine k_iload_n eX11_shape_30 rfl ?_
    refine k_bipush (v := nI 10) eX11_shape_31 (by decide) ?_
    refine k_idiv eX11_shape_33 (by decide) ?_
    refine k_iconst (v := nI 0) eX11_shape_34 (by decide) ?_
    refine k_bipush (v := nI 7) eX11_shape_35 (by decide) ?_
    refine cS1 (M' := MX11_within) eX11_shape_37 mX11_114 wX11_within sX11_within rfl (pX11_within ((e / nI 10)) (nI 0) (nI 7)) (by decide) (Nat.le_of_ble_eq_true rfl) ?_
    refine k_ifb_eq 63 eX11_shape_40 (by decide) (fun c_40 => ?_) (fun c_40 => ?_)
    · refine k_iconst (v := (-1)) eX11_shape_63 (by decide) ?_
      refine k_ireturn eX11_shape_64 rfl rfl ?_
      exact ⟨by rw [aShp, if_neg (fun q => by first | exact c_7 q.1.1 | exact c_21 q.1.2 | exact q.2.1 c_27 | exact c_40 q.2.2.1 | exact c_53 q.2.2.2.1 | exact c_60 q.2.2.2.2)], by rw [sShp, if_neg (fun q => by first | exact c_7 q.1.1 | exact c_21 q.1.2 | exact q.2.1 c_27 | exact c_40 q.2.2.1 | exact c_53 q.2.2.2.1 | exact c_60 q.2.2.2.2)]⟩
    refine k_iload_n eX11_shape_43 rfl ?_
    refine k_bipush (v := nI 10) eX11_shape_44 (by decide) ?_
    refine k_irem eX11_shape_46 (by decide) ?_
    refine k_iconst (v := nI 0) eX11_shape_47 (by decide) ?_
    refine k_bipush (v := nI 7) eX11_shape_48 (by decide) ?_
    refine cS1 (M' := MX11_within) eX11_shape_50 mX11_114 wX11_within sX11_within rfl (pX11_within ((e - e / nI 10 * nI 10)) (nI 0) (nI 7)) (by decide) (Nat.le_of_ble_eq_true rfl) ?_
    refine k_ifb_eq 63 eX11_shape_53 (by decide) (fun c_53 => ?_) (fun c_53 => ?_)
    · refine k_iconst (v := (-1)) eX11_shape_63 (by decide) ?_
      refine k_ireturn eX11_shape_64 rfl rfl ?_
      exact ⟨by rw [aShp, if_neg (fun q => by first | exact c_7 q.1.1 | exact c_21 q.1.2 | exact q.2.1 c_27 | exact c_40 q.2.2.1 | exact c_53 q.2.2.2.1 | exact c_60 q.2.2.2.2)], by rw [sShp, if_neg (fun q => by first | exact c_7 q.1.1 | exact c_21 q.1.2 | exact q.2.1 c_27 | exact c_40 q.2.2.1 | exact c_53 q.2.2.2.1 | exact c_60 q.2.2.2.2)]⟩
    refine k_iload_n eX11_shape_56 rfl ?_
    refine cS1 (M' := MX11_isSpan) eX11_shape_57 mX11_146 wX11_isSpan sX11_isSpan rfl (pX11_isSpan (x)) (by decide) (Nat.le_of_ble_eq_true rfl) ?_
    refine k_ifb_ne 65 eX11_shape_60 (by decide) (fun c_60 => ?_) (fun c_60 => ?_)
    · have hC : pShp (S.1 803) s e x := ⟨⟨c_7, c_21⟩, c_27, c_40, c_53, c_60⟩
      obtain ⟨u, v, z, hu, hv31, hz31, rfl, rfl, rfl, huw, hv1, hv2, hz0, hz2, hz1⟩ := pShp_ex hC hwk hwk6
      have eR : shR S (nI u) (nI v) (nI z) = shF (restN (S.2.1 25) 120) u v (z / 1000) (z % 1000 + 1 - z / 1000) := by rw [shR, ix_nI (by omega), ix_nI (by omega), rrN_nI hz31, ddN_nI hz31]
      refine k_aload_n eX11_shape_65 rfl ?_
      refine GX11_92 eX11_shape_66 rfl ?_
      refine cV0 (M' := MX1_clear) eX11_shape_69 mX11_132 wX1_clear vX1_clear ⟨_, _, _, rfl, rfl, rfl⟩ rfl (pX1_clear (S := S) ) (by decide) (Nat.le_of_ble_eq_true rfl) ?_
      refine k_aload_n eX11_shape_72 rfl ?_
      refine GX11_75 eX11_shape_73 rfl ?_
      refine cV0 (M' := MX2_restAll) eX11_shape_76 mX11_149 wX2_restAll vX2_restAll ⟨_, _, _, rfl, rfl, rfl⟩ rfl (pX2_restAll (S := (si (si S 1656 (nI 0)) 1657 (nI 0))) ) (by decide) (Nat.le_of_ble_eq_true rfl) ?_
      refine k_iload_n eX11_shape_79 rfl ?_
      refine k_sipush (v := nI 1000) eX11_shape_80 (by decide) ?_
      refine k_idivN eX11_shape_83 (by omega) (by omega) (by omega) ?_
      refine k_istore (L2 := [_, _, _, _, _, _, _, _]) eX11_shape_84 (Nat.le_of_ble_eq_true rfl) rfl ?_
      refine k_iload eX11_shape_86 rfl ?_
      refine k_istore (L2 := [_, _, _, _, _, _, _, _]) eX11_shape_88 (Nat.le_of_ble_eq_true rfl) rfl ?_
      refine k_loc (L2 := [_, _, _, _, _, .int (nI (z / 1000 + 0)), _, _]) rfl ?_
      refine lX11_shape (by decide) (C := clS S) (f := restN (S.2.1 25) 120) hu hv31 hv1 hv2 hz31 hz1 hz2 ?_ (z % 1000 + 1 - z / 1000) 0 (by omega)
      obtain ⟨T, hT⟩ : ∃ T, sa (clS S) 25 (shF (restN (S.2.1 25) 120) u v (z / 1000) (z % 1000 + 1 - z / 1000)) = T := ⟨_, rfl⟩
      rw [hT]
      refine k_aload_n eX11_shape_176 rfl ?_
      refine GX11_75 eX11_shape_177 rfl ?_
      refine k_iconst (v := nI 0) eX11_shape_180 (by decide) ?_
      refine k_bipush (v := nI 119) eX11_shape_181 (by decide) ?_
      refine cV1 (M' := MX2_working) eX11_shape_183 mX11_158 wX2_working vX2_working ⟨_, _, _, rfl, rfl, rfl⟩ rfl (pX2_working (S := T) (a := 0) (b := 119) (by omega) (by omega)) (by decide) (Nat.le_of_ble_eq_true rfl) ?_
      refine k_ireturn eX11_shape_186 rfl rfl ?_
      exact ⟨by rw [aShp, if_pos hC, eR, ← hT, sa_at], by rw [sShp, if_pos hC, eR, hT]⟩
    refine k_iconst (v := (-1)) eX11_shape_63 (by decide) ?_
    refine k_ireturn eX11_shape_64 rfl rfl ?_
    exact ⟨by rw [aShp, if_neg (fun q => by first | exact c_7 q.1.1 | exact c_21 q.1.2 | exact q.2.1 c_27 | exact c_40 q.2.2.1 | exact c_53 q.2.2.2.1 | exact c_60 q.2.2.2.2)], by rw [sShp, if_neg (fun q => by first | exact c_7 q.1.1 | exact c_21 q.1.2 | exact q.2.1 c_27 | exact c_40 q.2.2.1 | exact c_53 q.2.2.2.1 | exact c_60 q.2.2.2.2)]⟩
  refine k_iconst (v := (-1)) eX11_shape_24 (by decide) ?_
  refine k_ireturn eX11_shape_25 rfl rfl ?_
  exact ⟨by rw [aShp, if_neg (fun q => by first | exact c_7 q.1.1 | exact c_21 q.1.2 | exact q.2.1 c_27 | exact c_40 q.2.2.1 | exact c_53 q.2.2.2.1 | exact c_60 q.2.2.2.2)], by rw [sShp, if_neg (fun q => by first | exact c_7 q.1.1 | exact c_21 q.1.2 | exact q.2.1 c_27 | exact c_40 q.2.2.1 | exact c_53 q.2.2.2.1 | exact c_60 q.2.2.2.2)]⟩
