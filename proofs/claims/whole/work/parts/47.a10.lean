theorem sub_ltN {a b j : Nat} (ha : a < 2 ^ 30) (hb : b < 2 ^ 30) (hj : j < 2 ^ 30) : (nI a - nI b < nI j) ↔ a < b + j := by
  rw [Int32.lt_iff_toInt_lt, pk_sub_toInt ha hb, nI_toInt (by omega)]; omega
/-- what work w gains on the lines' days among n -/
def lnS (V : k_V) (dn r w : Nat) : Nat → Int32
  | 0 => nI 0
  | n + 1 => if n % 7 = 1 ∨ n % 7 = 3 ∨ n % 7 = 5 then lnS V dn r w n + wor V dn r w n else lnS V dn r w n
abbrev pLin (kr kw r x w : Int32) : Prop := pW kr r ∧ ¬ x < 0 ∧ pW kw (x / nI 100) ∧ pIn w (nI 0) (nI 1)
def lnV (V : k_V) (dn : Nat) (r x : Int32) : Int32 := lnS V dn (ix r) (ix (x / nI 100)) (lsN V dn - ix (rm x (nI 100)))
def aLin (S : k_S) (V : k_V) (dn wk : Nat) (kr kw r x w : Int32) : Int32 := if pLin kr kw r x w then (if lsN V dn = 0 then -2 else if w = 0 then lnV V dn r x else (cbE V dn wk (ix r) 3 S).2 - lnV V dn r x) else -2000000000
def sLin (S : k_S) (V : k_V) (dn wk : Nat) (kr kw r x w : Int32) : k_S := if pLin kr kw r x w then (if lsN V dn = 0 then S else if w = 0 then S else (cbE V dn wk (ix r) 3 S).1) else S
theorem pLin_ex {kr kw r x w : Int32} {rn wk : Nat} (h : pLin kr kw r x w) (hk : kr = nI rn) (hrn : rn ≤ 5) (hk2 : kw = nI wk) (hwk : wk ≤ 6) : ∃ u z, u < rn ∧ z < 2 ^ 31 ∧ r = nI u ∧ x = nI z ∧ z / 100 < wk := by
  obtain ⟨h1, h2, h3, h4⟩ := h
  obtain ⟨u, hu, rfl⟩ := pW_ex h1 hk (by omega)
  obtain ⟨z, hz, rfl⟩ := k_nneg h2
  rw [(dmN hz (by decide) (by decide)).1, hk2, pW_N (by omega) (by omega)] at h3
  exact ⟨u, z, hu, hz, rfl, rfl, h3⟩
theorem lnV_N {V : k_V} {dn u z : Nat} (hu : u < 5) (hz : z < 2 ^ 31) : lnV V dn (nI u) (nI z) = lnS V dn u (z / 100) (lsN V dn - z % 100) := by
  rw [lnV, (dmN hz (by decide) (by decide)).1, (dmN hz (by decide) (by decide)).2, ix_nI (by omega), ix_nI (by omega), ix_nI (by omega)]
set_option maxHeartbeats 400000 in
theorem lX11_lines {d : Nat} {Po : Option Value → k_H → Prop} (hdd : 4 ≤ d) {S : k_S} {V : k_V} (hV : vC S = V) {dn : Nat} (hdn : S.1 1302 = nI dn) (hcd : CntOk V dn) {u z : Nat} (hu : u < 5) (hz31 : z < 2 ^ 31) (hzw : z / 100 < 6) (hl0 : 0 < lsN V dn) (hl120 : lsN V dn ≤ 120) (w : Int32) (kx : AW none MX11_lines d 0 0 127 [.ref 0, .int (nI u), .int (nI z), .int (w), .int ((lnS V dn u (z / 100) ((lsN V dn - z % 100)))), .int (nI ((lsN V dn - z % 100))), .null] [] (hp S) Po) : ∀ (n j : Nat), j + n = (lsN V dn - z % 100) → AW none MX11_lines d 0 0 60 [.ref 0, .int (nI u), .int (nI z), .int (w), .int ((lnS V dn u (z / 100) j)), .int (nI j), .null] [] (hp S) Po := by
  intro n
  induction n with
  | zero =>
    intro j hj
    rw [show j = (lsN V dn - z % 100) by omega]
    refine k_iload eX11_lines_60 rfl ?_
    refine k_aload_n eX11_lines_62 rfl ?_
    refine GX11_79 eX11_lines_63 rfl ?_
    refine cV1 (M' := MX5_last) eX11_lines_66 mX11_205 wX5_last vX5_last ⟨_, _, _, rfl, rfl, rfl⟩ rfl (pX5_last (S := S) (dn := dn) hdn hcd.1) (by omega) (Nat.le_of_ble_eq_true rfl) ?_
    refine k_topi (nI (lsN V dn - 1)) (by rw [show (S).2.1 27 = V 7 from congrFun hV 7]; exact lstD_at hcd hl0) ?_
    refine k_iload_n eX11_lines_69 rfl ?_
    refine k_bipush (v := nI 100) eX11_lines_70 (by decide) ?_
    refine k_iremN eX11_lines_72 (by omega) (by omega) (by omega) ?_
    refine k_isub eX11_lines_73 ?_
    refine k_icmp_gt 127 eX11_lines_74 (by decide) (fun c_74 => ?_) (fun c_74 => by exact absurd ((sub_ltN (by omega) (by omega) (by omega)).mpr (by omega)) c_74)
    exact kx
  | succ n ih =>
    intro j hj
    refine k_iload eX11_lines_60 rfl ?_
    refine k_aload_n eX11_lines_62 rfl ?_
    refine GX11_79 eX11_lines_63 rfl ?_
    refine cV1 (M' := MX5_last) eX11_lines_66 mX11_205 wX5_last vX5_last ⟨_, _, _, rfl, rfl, rfl⟩ rfl (pX5_last (S := S) (dn := dn) hdn hcd.1) (by omega) (Nat.le_of_ble_eq_true rfl) ?_
    refine k_topi (nI (lsN V dn - 1)) (by rw [show (S).2.1 27 = V 7 from congrFun hV 7]; exact lstD_at hcd hl0) ?_
    refine k_iload_n eX11_lines_69 rfl ?_
    refine k_bipush (v := nI 100) eX11_lines_70 (by decide) ?_
    refine k_iremN eX11_lines_72 (by omega) (by omega) (by omega) ?_
    refine k_isub eX11_lines_73 ?_
    refine k_icmp_gt 127 eX11_lines_74 (by decide) (fun c_74 => by exact absurd ((sub_ltN (by omega) (by omega) (by omega)).mp c_74) (by omega)) (fun c_74 => ?_)
    refine k_iload eX11_lines_77 rfl ?_
    refine k_bipush (v := nI 7) eX11_lines_79 (by decide) ?_
    refine k_iremN eX11_lines_81 (by omega) (by omega) (by omega) ?_
    refine k_istore (L2 := [_, _, _, _, _, _, _]) eX11_lines_82 (Nat.le_of_ble_eq_true rfl) rfl ?_
    refine k_iload eX11_lines_84 rfl ?_
    refine k_iconst (v := nI 1) eX11_lines_86 (by decide) ?_
    refine k_icmp_eqN 102 eX11_lines_87 (by decide) (by omega) (by omega) (fun c_87 => ?_) (fun c_87 => ?_)
    · refine k_iload eX11_lines_102 rfl ?_
      refine k_aload_n eX11_lines_104 rfl ?_
      refine GX11_83 eX11_lines_105 rfl ?_
      refine k_iload_n eX11_lines_108 rfl ?_
      refine k_iload_n eX11_lines_109 rfl ?_
      refine k_bipush (v := nI 100) eX11_lines_110 (by decide) ?_
      refine k_idivN eX11_lines_112 (by omega) (by omega) (by omega) ?_
      refine k_iload eX11_lines_113 rfl ?_
      refine cV1 (M' := MX3_valueOf) eX11_lines_115 mX11_187 wX3_valueOf vX3_valueOf ⟨_, _, _, rfl, rfl, rfl⟩ rfl (pX3_valueOf (S := S) (V := V) (dn := dn) (r := u) (w := (z / 100)) (dd := j) hV hdn hcd (by omega) (by omega) (by omega)) (by omega) (Nat.le_of_ble_eq_true rfl) ?_
      refine k_iadd eX11_lines_118 ?_
      refine k_istore (L2 := [_, _, _, _, _, _, _]) eX11_lines_119 (Nat.le_of_ble_eq_true rfl) rfl ?_
      refine k_iincN (g := 1) (a := j) (L2 := [_, _, _, _, _, _, _]) eX11_lines_121 (Nat.le_of_ble_eq_true rfl) rfl rfl ?_
      refine k_goto 60 eX11_lines_124 (by decide) ?_
      refine k_forget 6 (L2 := [_, _, _, _, _, _, _]) rfl ?_
      have q := ih (j + 1) (by omega)
      rw [lnS] at q
      first | (rw [if_neg (by omega)] at q; exact q) | (rw [if_pos (by omega)] at q; exact q)
    refine k_iload eX11_lines_90 rfl ?_
    refine k_iconst (v := nI 3) eX11_lines_92 (by decide) ?_
    refine k_icmp_eqN 102 eX11_lines_93 (by decide) (by omega) (by omega) (fun c_93 => ?_) (fun c_93 => ?_)
    · refine k_iload eX11_lines_102 rfl ?_
      refine k_aload_n eX11_lines_104 rfl ?_
      refine GX11_83 eX11_lines_105 rfl ?_
      refine k_iload_n eX11_lines_108 rfl ?_
      refine k_iload_n eX11_lines_109 rfl ?_
      refine k_bipush (v := nI 100) eX11_lines_110 (by decide) ?_
      refine k_idivN eX11_lines_112 (by omega) (by omega) (by omega) ?_
      refine k_iload eX11_lines_113 rfl ?_
      refine cV1 (M' := MX3_valueOf) eX11_lines_115 mX11_187 wX3_valueOf vX3_valueOf ⟨_, _, _, rfl, rfl, rfl⟩ rfl (pX3_valueOf (S := S) (V := V) (dn := dn) (r := u) (w := (z / 100)) (dd := j) hV hdn hcd (by omega) (by omega) (by omega)) (by omega) (Nat.le_of_ble_eq_true rfl) ?_
      refine k_iadd eX11_lines_118 ?_
      refine k_istore (L2 := [_, _, _, _, _, _, _]) eX11_lines_119 (Nat.le_of_ble_eq_true rfl) rfl ?_
      refine k_iincN (g := 1) (a := j) (L2 := [_, _, _, _, _, _, _]) eX11_lines_121 (Nat.le_of_ble_eq_true rfl) rfl rfl ?_
      refine k_goto 60 eX11_lines_124 (by decide) ?_
      refine k_forget 6 (L2 := [_, _, _, _, _, _, _]) rfl ?_
      have q := ih (j + 1) (by omega)
      rw [lnS] at q
      first | (rw [if_neg (by omega)] at q; exact q) | (rw [if_pos (by omega)] at q; exact q)
    refine k_iload eX11_lines_96 rfl ?_
    refine k_iconst (v := nI 5) eX11_lines_98 (by decide) ?_
    refine k_icmp_neN 121 eX11_lines_99 (by decide) (by omega) (by omega) (fun c_99 => ?_) (fun c_99 => ?_)
    · refine k_iincN (g := 1) (a := j) (L2 := [_, _, _, _, _, _, _]) eX11_lines_121 (Nat.le_of_ble_eq_true rfl) rfl rfl ?_
      refine k_goto 60 eX11_lines_124 (by decide) ?_
      refine k_forget 6 (L2 := [_, _, _, _, _, _, _]) rfl ?_
      have q := ih (j + 1) (by omega)
      rw [lnS] at q
      first | (rw [if_neg (by omega)] at q; exact q) | (rw [if_pos (by omega)] at q; exact q)
    refine k_iload eX11_lines_102 rfl ?_
    refine k_aload_n eX11_lines_104 rfl ?_
    refine GX11_83 eX11_lines_105 rfl ?_
    refine k_iload_n eX11_lines_108 rfl ?_
    refine k_iload_n eX11_lines_109 rfl ?_
    refine k_bipush (v := nI 100) eX11_lines_110 (by decide) ?_
    refine k_idivN eX11_lines_112 (by omega) (by omega) (by omega) ?_
    refine k_iload eX11_lines_113 rfl ?_
    refine cV1 (M' := MX3_valueOf) eX11_lines_115 mX11_187 wX3_valueOf vX3_valueOf ⟨_, _, _, rfl, rfl, rfl⟩ rfl (pX3_valueOf (S := S) (V := V) (dn := dn) (r := u) (w := (z / 100)) (dd := j) hV hdn hcd (by omega) (by omega) (by omega)) (by omega) (Nat.le_of_ble_eq_true rfl) ?_
    refine k_iadd eX11_lines_118 ?_
    refine k_istore (L2 := [_, _, _, _, _, _, _]) eX11_lines_119 (Nat.le_of_ble_eq_true rfl) rfl ?_
    refine k_iincN (g := 1) (a := j) (L2 := [_, _, _, _, _, _, _]) eX11_lines_121 (Nat.le_of_ble_eq_true rfl) rfl rfl ?_
    refine k_goto 60 eX11_lines_124 (by decide) ?_
    refine k_forget 6 (L2 := [_, _, _, _, _, _, _]) rfl ?_
    have q := ih (j + 1) (by omega)
    rw [lnS] at q
    first | (rw [if_neg (by omega)] at q; exact q) | (rw [if_pos (by omega)] at q; exact q)
set_option maxHeartbeats 400000 in
theorem pX11_lines {S : k_S} {V : k_V} (hV : vC S = V) {dn : Nat} (hdn : S.1 1302 = nI dn) (hcd : CntOk V dn) {wk : Nat} (hwk : S.1 803 = nI wk) (hwk1 : 1 ≤ wk) (hwk6 : wk ≤ 6)  {rn : Nat} (hrn : S.1 1003 = nI rn) (hrn5 : rn ≤ 5) (r x w : Int32) : Sp 6 0 0 MX11_lines [.ref 0, .int (r), .int (x), .int (w)] (hp S) (Rt (some (.int (aLin S V dn wk (S.1 1003) (S.1 803) r x w))) (hp (sLin S V dn wk (S.1 1003) (S.1 803) r x w))) := by
  refine Sp_of (by decide +kernel) (Nat.le_of_ble_eq_true rfl) ?_
  show AW none MX11_lines 6 0 0 0 [.ref 0, .int (r), .int (x), .int (w), .null, .null, .null] [] (hp S) _
  refine k_aload_n eX11_lines_0 rfl ?_
  refine GX11_71 eX11_lines_1 rfl ?_
  refine k_iload_n eX11_lines_4 rfl ?_
  refine cV1 (M' := MX8_has) eX11_lines_5 mX11_175 wX8_has vX8_has ⟨_, _, _, rfl, rfl, rfl⟩ rfl (pX8_has (S := S) (r)) (by decide) (Nat.le_of_ble_eq_true rfl) ?_
  refine k_ifb_eq 38 eX11_lines_8 (by decide) (fun c_8 => ?_) (fun c_8 => ?_)
  · refine k_ldc eX11_lines_38 kX11_168 rfl ?_
    refine k_ireturn eX11_lines_40 rfl rfl ?_
    exact ⟨by rw [aLin, if_neg (fun q => by first | exact c_8 q.1 | exact q.2.1 c_12 | exact c_26 q.2.2.1 | exact c_35 q.2.2.2)], by rw [sLin, if_neg (fun q => by first | exact c_8 q.1 | exact q.2.1 c_12 | exact c_26 q.2.2.1 | exact c_35 q.2.2.2)]⟩
  refine k_iload_n eX11_lines_11 rfl ?_
  refine k_if_lt 38 eX11_lines_12 (by decide) (fun c_12 => ?_) (fun c_12 => ?_)
  · refine k_ldc eX11_lines_38 kX11_168 rfl ?_
    refine k_ireturn eX11_lines_40 rfl rfl ?_
    exact ⟨by rw [aLin, if_neg (fun q => by first | exact c_8 q.1 | exact q.2.1 c_12 | exact c_26 q.2.2.1 | exact c_35 q.2.2.2)], by rw [sLin, if_neg (fun q => by first | exact c_8 q.1 | exact q.2.1 c_12 | exact c_26 q.2.2.1 | exact c_35 q.2.2.2)]⟩
  refine k_aload_n eX11_lines_15 rfl ?_
  refine GX11_67 eX11_lines_16 rfl ?_
  refine k_iload_n eX11_lines_19 rfl ?_
  refine k_bipush (v := nI 100) eX11_lines_20 (by decide) ?_
  refine k_idiv eX11_lines_22 (by decide) ?_
  refine cV1 (M' := MX10_has) eX11_lines_23 mX11_110 wX10_has vX10_has ⟨_, _, _, rfl, rfl, rfl⟩ rfl (pX10_has (S := S) ((x / nI 100))) (by decide) (Nat.le_of_ble_eq_true rfl) ?_
  refine k_ifb_eq 38 eX11_lines_26 (by decide) (fun c_26 => ?_) (fun c_26 => ?_)
  · refine k_ldc eX11_lines_38 kX11_168 rfl ?_
    refine k_ireturn eX11_lines_40 rfl rfl ?_
    exact ⟨by rw [aLin, if_neg (fun q => by first | exact c_8 q.1 | exact q.2.1 c_12 | exact c_26 q.2.2.1 | exact c_35 q.2.2.2)], by rw [sLin, if_neg (fun q => by first | exact c_8 q.1 | exact q.2.1 c_12 | exact c_26 q.2.2.1 | exact c_35 q.2.2.2)]⟩
  refine k_iload_n eX11_lines_29 rfl ?_
  refine k_iconst (v := nI 0) eX11_lines_30 (by decide) ?_
  refine k_iconst (v := nI 1) eX11_lines_31 (by decide) ?_
  refine cS1 (M' := MX11_within) eX11_lines_32 mX11_114 wX11_within sX11_within rfl (pX11_within (w) (nI 0) (nI 1)) (by decide) (Nat.le_of_ble_eq_true rfl) ?_
  refine k_ifb_ne 41 eX11_lines_35 (by decide) (fun c_35 => ?_) (fun c_35 => ?_)
  · have hC : pLin (S.1 1003) (S.1 803) r x w := ⟨c_8, c_12, c_26, c_35⟩
    obtain ⟨u, z, hu, hz31, rfl, rfl, hzw⟩ := pLin_ex hC hrn hrn5 hwk hwk6
    have hl120 := lsN_le hcd dn (Nat.le_refl _)
    have eL : lnV V dn (nI u) (nI z) = lnS V dn u (z / 100) (lsN V dn - z % 100) := lnV_N (by omega) hz31
    refine k_aload_n eX11_lines_41 rfl ?_
    refine GX11_79 eX11_lines_42 rfl ?_
    refine cV1 (M' := MX5_last) eX11_lines_45 mX11_205 wX5_last vX5_last ⟨_, _, _, rfl, rfl, rfl⟩ rfl (pX5_last (S := S) (dn := dn) hdn hcd.1) (by decide) (Nat.le_of_ble_eq_true rfl) ?_
    refine k_topi ((lstD (V 7) dn)) (by rw [show (S).2.1 27 = V 7 from congrFun hV 7]) ?_
    refine k_if_ge 54 eX11_lines_48 (by decide) (fun c_48 => ?_) (fun c_48 => ?_)
    · have hl0 : 0 < lsN V dn := (lst_neg hcd).mp c_48
      refine k_iconst (v := nI 0) eX11_lines_54 (by decide) ?_
      refine k_istore (L2 := [_, _, _, _, _, _, _]) eX11_lines_55 (Nat.le_of_ble_eq_true rfl) rfl ?_
      refine k_iconst (v := nI 0) eX11_lines_57 (by decide) ?_
      refine k_istore (L2 := [_, _, _, _, _, _, _]) eX11_lines_58 (Nat.le_of_ble_eq_true rfl) rfl ?_
      refine lX11_lines (by decide) hV hdn hcd (u := u) (z := z) (by omega) hz31 (by omega) hl0 hl120 w ?_ (lsN V dn - z % 100) 0 (by omega)
      refine k_iload_n eX11_lines_127 rfl ?_
      refine k_if_ne 136 eX11_lines_128 (by decide) (fun c_128 => ?_) (fun c_128 => ?_)
      · refine k_aload_n eX11_lines_136 rfl ?_
        refine GX11_83 eX11_lines_137 rfl ?_
        refine k_iload_n eX11_lines_140 rfl ?_
        refine k_iconst (v := nI 3) eX11_lines_141 (by decide) ?_
        refine cV1 (M' := MX3_chooseBest) eX11_lines_142 mX11_193 wX3_chooseBest vX3_chooseBest ⟨_, _, _, rfl, rfl, rfl⟩ rfl (pX3_chooseBest (S := S) (V := V) (dn := dn) (wk := wk) (r := u) (m := 3) hV hdn hcd hwk hwk1 hwk6 (by omega) (by omega)) (by decide) (Nat.le_of_ble_eq_true rfl) ?_
        refine k_iload eX11_lines_145 rfl ?_
        refine k_isub eX11_lines_147 ?_
        refine k_ireturn eX11_lines_148 rfl rfl ?_
        exact ⟨by rw [aLin, if_pos hC, if_neg (by omega), if_neg c_128, eL, ix_nI (by omega)], by rw [sLin, if_pos hC, if_neg (by omega), if_neg c_128, ix_nI (by omega)]⟩
      refine k_iload eX11_lines_131 rfl ?_
      refine k_goto 148 eX11_lines_133 (by decide) ?_
      refine k_ireturn eX11_lines_148 rfl rfl ?_
      exact ⟨by rw [aLin, if_pos hC, if_neg (by omega), if_pos c_128, eL], by rw [sLin, if_pos hC, if_neg (by omega), if_pos c_128]⟩
    refine k_bipush (v := (-2)) eX11_lines_51 (by decide) ?_
    refine k_ireturn eX11_lines_53 rfl rfl ?_
    have hl0 : lsN V dn = 0 := Nat.le_zero.mp (Nat.not_lt.mp (fun q => c_48 ((lst_neg hcd).mpr q)))
    exact ⟨by rw [aLin, if_pos hC, if_pos hl0], by rw [sLin, if_pos hC, if_pos hl0]⟩
  refine k_ldc eX11_lines_38 kX11_168 rfl ?_
  refine k_ireturn eX11_lines_40 rfl rfl ?_
  exact ⟨by rw [aLin, if_neg (fun q => by first | exact c_8 q.1 | exact q.2.1 c_12 | exact c_26 q.2.2.1 | exact c_35 q.2.2.2)], by rw [sLin, if_neg (fun q => by first | exact c_8 q.1 | exact q.2.1 c_12 | exact c_26 q.2.2.1 | exact c_35 q.2.2.2)]⟩
