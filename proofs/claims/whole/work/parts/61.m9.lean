theorem pInN {a b u : Nat} (h : pIn (nI u) (nI a) (nI b)) (hu : u < 2 ^ 31) (hb : b < 2 ^ 31) : u ≤ b := by
  have q := Int32.le_iff_toInt_le.mp h.2
  rw [nI_toInt hu, nI_toInt hb] at q; omega
theorem pNIn {b u : Nat} (h : u ≤ b) (hb : b < 2 ^ 31) : pIn (nI u) (nI 0) (nI b) := ⟨nI_pos' (by omega), nI_le h hb⟩
def mwkN (u v k : Nat) : Nat := v / 10 + (if u / 10 = 1 then k / 7 * (v % 10) / 4 else 0)
def shM (u v z d : Nat) : Int32 := if z / 1000 ≤ d ∧ d ≤ z % 1000 ∧ (d - z / 1000) % 7 < mwkN u v (d - z / 1000) then nI (u % 10) else nI 0
def mshR (S : k_S) (s e x : Int32) : Nat → Int32 := fillN (shM (ix s) (ix e) (ix x)) (S.2.1 61) 120
def aMShp (S : k_S) (kw s e x : Int32) : Int32 := if pShp kw s e x then nI (cnt (mshR S s e x) 0 120) else -1
def mShp (S : k_S) (s e x : Int32) : k_S := if pShp (S.1 2600) s e x then si (si (sa S 61 (mshR S s e x)) 2626 (nI 0)) 2625 (nI 0) else S
theorem vM_sa (S : k_S) (f : Nat → Int32) : vM (sa S 61 f) = vP (vM S) f := by
  funext k
  match k with
  | 0 => rfl
  | 1 => rfl
  | 2 => rfl
  | 3 => rfl
  | 4 => rfl
  | 5 => rfl
  | 6 => rfl
  | 7 => rfl
  | n + 8 => rfl
theorem shM_ok (V : k_V) {u v z wk : Nat} (f : Nat → Int32) (hu : u % 10 < wk) (hwk : wk ≤ 6) : PlanOk (vP V (fillN (shM u v z) f 120)) := by
  intro d hd
  have e : vP V (fillN (shM u v z) f 120) 6 d = shM u v z d := by
    show fillN (shM u v z) f 120 d = _
    rw [fillN_at, if_pos hd]
  unfold pw
  rw [e, shM]
  split
  · rw [ix_nI (by omega)]; exact ⟨rfl, by omega⟩
  · rw [ix_nI (by omega)]; exact ⟨rfl, by omega⟩
set_option maxHeartbeats 400000 in
theorem lX12_shape {d : Nat} {Po : Option Value → k_H → Prop} (hdd : 0 ≤ d) {S : k_S} {u v z : Nat} (hu : u ≤ 19) (hv31 : v < 2 ^ 31) (hv1 : v / 10 ≤ 7) (hv2 : v % 10 ≤ 7) (hz31 : z < 2 ^ 31) (hz1 : z / 1000 ≤ z % 1000) (hz2 : z % 1000 < 120) (kx : AW none MX12_shape d 0 0 195 [.ref 52, .int (nI u), .int (nI v), .int (nI z), .int (nI 1), .int (nI 120), .null, .null] [] (hp (sa S 61 (fillN (shM u v z) (S.2.1 61) 120))) Po) : ∀ (n j : Nat), j + n = 120 → AW none MX12_shape d 0 0 101 [.ref 52, .int (nI u), .int (nI v), .int (nI z), .int (nI 1), .int (nI j), .null, .null] [] (hp (sa S 61 (fillN (shM u v z) (S.2.1 61) j))) Po := by
  intro n
  induction n with
  | zero =>
    intro j hj
    rw [show j = 120 by omega]
    refine k_iload eX12_shape_101 rfl ?_
    refine k_bipush (v := nI 120) eX12_shape_103 (by decide) ?_
    refine k_icmp_geN 195 eX12_shape_105 (by decide) (by omega) (by omega) (fun c_105 => ?_) (fun c_105 => by exfalso; omega)
    exact kx
  | succ n ih =>
    intro j hj
    by_cases hc : z / 1000 ≤ j
    · have hml : (j - z / 1000) / 7 * (v % 10) ≤ 17 * 7 := Nat.mul_le_mul (by omega) (by omega)
      refine k_iload eX12_shape_101 rfl ?_
      refine k_bipush (v := nI 120) eX12_shape_103 (by decide) ?_
      refine k_icmp_geN 195 eX12_shape_105 (by decide) (by omega) (by omega) (fun c_105 => by exfalso; omega) (fun c_105 => ?_)
      refine k_iload eX12_shape_108 rfl ?_
      refine k_iload_n eX12_shape_110 rfl ?_
      refine k_sipush (v := nI 1000) eX12_shape_111 (by decide) ?_
      refine k_idivN eX12_shape_114 (by omega) (by omega) (by omega) ?_
      refine k_isubN eX12_shape_115 (by omega) ?_
      refine k_istore (L2 := [_, _, _, _, _, _, _, _]) eX12_shape_116 (Nat.le_of_ble_eq_true rfl) rfl ?_
      refine k_iload_n eX12_shape_118 rfl ?_
      refine k_bipush (v := nI 10) eX12_shape_119 (by decide) ?_
      refine k_idivN eX12_shape_121 (by omega) (by omega) (by omega) ?_
      refine k_iload_n eX12_shape_122 rfl ?_
      refine k_bipush (v := nI 10) eX12_shape_123 (by decide) ?_
      refine k_idivN eX12_shape_125 (by omega) (by omega) (by omega) ?_
      refine k_iconst (v := nI 1) eX12_shape_126 (by decide) ?_
      refine k_icmp_neN 145 eX12_shape_127 (by decide) (by omega) (by omega) (fun c_127 => ?_) (fun c_127 => ?_)
      · refine k_iconst (v := nI 0) eX12_shape_145 (by decide) ?_
        refine k_iaddN eX12_shape_146 ?_
        refine k_istore (L2 := [_, _, _, _, _, _, _, _]) eX12_shape_147 (Nat.le_of_ble_eq_true rfl) rfl ?_
        refine k_aload_n eX12_shape_149 rfl ?_
        refine GX12_38 eX12_shape_150 rfl ?_
        refine k_iload eX12_shape_153 rfl ?_
        refine k_iload eX12_shape_155 rfl ?_
        refine k_if_ltN 187 eX12_shape_157 (by decide) (by omega) ?_
        refine k_iload eX12_shape_160 rfl ?_
        refine k_iload_n eX12_shape_162 rfl ?_
        refine k_sipush (v := nI 1000) eX12_shape_163 (by decide) ?_
        refine k_iremN eX12_shape_166 (by omega) (by omega) (by omega) ?_
        refine k_icmp_gtN 187 eX12_shape_167 (by decide) (by omega) (by omega) (fun c_167 => ?_) (fun c_167 => ?_)
        · refine k_iconst (v := nI 0) eX12_shape_187 (by decide) ?_
          refine k_iastN (j := j) eX12_shape_188 (ar61 _) (by omega) (Nat.le_of_ble_eq_true rfl) (as61 _ _) ?_
          refine k_iincN (g := 1) (a := j) (L2 := [_, _, _, _, _, _, _, _]) eX12_shape_189 (Nat.le_of_ble_eq_true rfl) rfl rfl ?_
          refine k_goto 101 eX12_shape_192 (by decide) ?_
          have q := ih (j + 1) (by omega)
          rw [fillN] at q
          refine k_forget 6 (L2 := [_, _, _, _, _, _, _, _]) rfl ?_
          refine k_forget 7 (L2 := [_, _, _, _, _, _, _, _]) rfl ?_
          rw [sa_sa, sa_at]
          first
          | (rw [show shM u v z j = nI (u % 10) from if_pos ⟨by omega, by omega, by rw [mwkN, if_pos (by omega)]; omega⟩] at q; exact q)
          | (rw [show shM u v z j = nI 0 from if_neg (fun h => by obtain ⟨h1, h2, h3⟩ := h; rw [mwkN, if_pos (by omega)] at h3; omega)] at q; exact q)
          | (rw [show shM u v z j = nI (u % 10) from if_pos ⟨by omega, by omega, by rw [mwkN, if_neg (by omega)]; omega⟩] at q; exact q)
          | (rw [show shM u v z j = nI 0 from if_neg (fun h => by obtain ⟨h1, h2, h3⟩ := h; rw [mwkN, if_neg (by omega)] at h3; omega)] at q; exact q)
        refine k_iload eX12_shape_170 rfl ?_
        refine k_bipush (v := nI 7) eX12_shape_172 (by decide) ?_
        refine k_iremN eX12_shape_174 (by omega) (by omega) (by omega) ?_
        refine k_iload eX12_shape_175 rfl ?_
        refine k_icmp_geN 187 eX12_shape_177 (by decide) (by omega) (by omega) (fun c_177 => ?_) (fun c_177 => ?_)
        · refine k_iconst (v := nI 0) eX12_shape_187 (by decide) ?_
          refine k_iastN (j := j) eX12_shape_188 (ar61 _) (by omega) (Nat.le_of_ble_eq_true rfl) (as61 _ _) ?_
          refine k_iincN (g := 1) (a := j) (L2 := [_, _, _, _, _, _, _, _]) eX12_shape_189 (Nat.le_of_ble_eq_true rfl) rfl rfl ?_
          refine k_goto 101 eX12_shape_192 (by decide) ?_
          have q := ih (j + 1) (by omega)
          rw [fillN] at q
          refine k_forget 6 (L2 := [_, _, _, _, _, _, _, _]) rfl ?_
          refine k_forget 7 (L2 := [_, _, _, _, _, _, _, _]) rfl ?_
          rw [sa_sa, sa_at]
          first
          | (rw [show shM u v z j = nI (u % 10) from if_pos ⟨by omega, by omega, by rw [mwkN, if_pos (by omega)]; omega⟩] at q; exact q)
          | (rw [show shM u v z j = nI 0 from if_neg (fun h => by obtain ⟨h1, h2, h3⟩ := h; rw [mwkN, if_pos (by omega)] at h3; omega)] at q; exact q)
          | (rw [show shM u v z j = nI (u % 10) from if_pos ⟨by omega, by omega, by rw [mwkN, if_neg (by omega)]; omega⟩] at q; exact q)
          | (rw [show shM u v z j = nI 0 from if_neg (fun h => by obtain ⟨h1, h2, h3⟩ := h; rw [mwkN, if_neg (by omega)] at h3; omega)] at q; exact q)
        refine k_iload_n eX12_shape_180 rfl ?_
        refine k_bipush (v := nI 10) eX12_shape_181 (by decide) ?_
        refine k_iremN eX12_shape_183 (by omega) (by omega) (by omega) ?_
        refine k_goto 188 eX12_shape_184 (by decide) ?_
        refine k_iastN (j := j) eX12_shape_188 (ar61 _) (by omega) (Nat.le_of_ble_eq_true rfl) (as61 _ _) ?_
        refine k_iincN (g := 1) (a := j) (L2 := [_, _, _, _, _, _, _, _]) eX12_shape_189 (Nat.le_of_ble_eq_true rfl) rfl rfl ?_
        refine k_goto 101 eX12_shape_192 (by decide) ?_
        have q := ih (j + 1) (by omega)
        rw [fillN] at q
        refine k_forget 6 (L2 := [_, _, _, _, _, _, _, _]) rfl ?_
        refine k_forget 7 (L2 := [_, _, _, _, _, _, _, _]) rfl ?_
        rw [sa_sa, sa_at]
        first
        | (rw [show shM u v z j = nI (u % 10) from if_pos ⟨by omega, by omega, by rw [mwkN, if_pos (by omega)]; omega⟩] at q; exact q)
        | (rw [show shM u v z j = nI 0 from if_neg (fun h => by obtain ⟨h1, h2, h3⟩ := h; rw [mwkN, if_pos (by omega)] at h3; omega)] at q; exact q)
        | (rw [show shM u v z j = nI (u % 10) from if_pos ⟨by omega, by omega, by rw [mwkN, if_neg (by omega)]; omega⟩] at q; exact q)
        | (rw [show shM u v z j = nI 0 from if_neg (fun h => by obtain ⟨h1, h2, h3⟩ := h; rw [mwkN, if_neg (by omega)] at h3; omega)] at q; exact q)
      refine k_iload eX12_shape_130 rfl ?_
      refine k_bipush (v := nI 7) eX12_shape_132 (by decide) ?_
      refine k_idivN eX12_shape_134 (by omega) (by omega) (by omega) ?_
      refine k_iload_n eX12_shape_135 rfl ?_
      refine k_bipush (v := nI 10) eX12_shape_136 (by decide) ?_
      refine k_iremN eX12_shape_138 (by omega) (by omega) (by omega) ?_
      refine k_imulN eX12_shape_139 ?_
      refine k_iconst (v := nI 4) eX12_shape_140 (by decide) ?_
      refine k_idivN eX12_shape_141 (by omega) (by omega) (by omega) ?_
      refine k_goto 146 eX12_shape_142 (by decide) ?_
      refine k_iaddN eX12_shape_146 ?_
      refine k_istore (L2 := [_, _, _, _, _, _, _, _]) eX12_shape_147 (Nat.le_of_ble_eq_true rfl) rfl ?_
      refine k_aload_n eX12_shape_149 rfl ?_
      refine GX12_38 eX12_shape_150 rfl ?_
      refine k_iload eX12_shape_153 rfl ?_
      refine k_iload eX12_shape_155 rfl ?_
      refine k_if_ltN 187 eX12_shape_157 (by decide) (by omega) ?_
      refine k_iload eX12_shape_160 rfl ?_
      refine k_iload_n eX12_shape_162 rfl ?_
      refine k_sipush (v := nI 1000) eX12_shape_163 (by decide) ?_
      refine k_iremN eX12_shape_166 (by omega) (by omega) (by omega) ?_
      refine k_icmp_gtN 187 eX12_shape_167 (by decide) (by omega) (by omega) (fun c_167 => ?_) (fun c_167 => ?_)
      · refine k_iconst (v := nI 0) eX12_shape_187 (by decide) ?_
        refine k_iastN (j := j) eX12_shape_188 (ar61 _) (by omega) (Nat.le_of_ble_eq_true rfl) (as61 _ _) ?_
        refine k_iincN (g := 1) (a := j) (L2 := [_, _, _, _, _, _, _, _]) eX12_shape_189 (Nat.le_of_ble_eq_true rfl) rfl rfl ?_
        refine k_goto 101 eX12_shape_192 (by decide) ?_
        have q := ih (j + 1) (by omega)
        rw [fillN] at q
        refine k_forget 6 (L2 := [_, _, _, _, _, _, _, _]) rfl ?_
        refine k_forget 7 (L2 := [_, _, _, _, _, _, _, _]) rfl ?_
        rw [sa_sa, sa_at]
        first
        | (rw [show shM u v z j = nI (u % 10) from if_pos ⟨by omega, by omega, by rw [mwkN, if_pos (by omega)]; omega⟩] at q; exact q)
        | (rw [show shM u v z j = nI 0 from if_neg (fun h => by obtain ⟨h1, h2, h3⟩ := h; rw [mwkN, if_pos (by omega)] at h3; omega)] at q; exact q)
        | (rw [show shM u v z j = nI (u % 10) from if_pos ⟨by omega, by omega, by rw [mwkN, if_neg (by omega)]; omega⟩] at q; exact q)
        | (rw [show shM u v z j = nI 0 from if_neg (fun h => by obtain ⟨h1, h2, h3⟩ := h; rw [mwkN, if_neg (by omega)] at h3; omega)] at q; exact q)
      refine k_iload eX12_shape_170 rfl ?_
      refine k_bipush (v := nI 7) eX12_shape_172 (by decide) ?_
      refine k_iremN eX12_shape_174 (by omega) (by omega) (by omega) ?_
      refine k_iload eX12_shape_175 rfl ?_
      refine k_icmp_geN 187 eX12_shape_177 (by decide) (by omega) (by omega) (fun c_177 => ?_) (fun c_177 => ?_)
      · refine k_iconst (v := nI 0) eX12_shape_187 (by decide) ?_
        refine k_iastN (j := j) eX12_shape_188 (ar61 _) (by omega) (Nat.le_of_ble_eq_true rfl) (as61 _ _) ?_
        refine k_iincN (g := 1) (a := j) (L2 := [_, _, _, _, _, _, _, _]) eX12_shape_189 (Nat.le_of_ble_eq_true rfl) rfl rfl ?_
        refine k_goto 101 eX12_shape_192 (by decide) ?_
        have q := ih (j + 1) (by omega)
        rw [fillN] at q
        refine k_forget 6 (L2 := [_, _, _, _, _, _, _, _]) rfl ?_
        refine k_forget 7 (L2 := [_, _, _, _, _, _, _, _]) rfl ?_
        rw [sa_sa, sa_at]
        first
        | (rw [show shM u v z j = nI (u % 10) from if_pos ⟨by omega, by omega, by rw [mwkN, if_pos (by omega)]; omega⟩] at q; exact q)
        | (rw [show shM u v z j = nI 0 from if_neg (fun h => by obtain ⟨h1, h2, h3⟩ := h; rw [mwkN, if_pos (by omega)] at h3; omega)] at q; exact q)
        | (rw [show shM u v z j = nI (u % 10) from if_pos ⟨by omega, by omega, by rw [mwkN, if_neg (by omega)]; omega⟩] at q; exact q)
        | (rw [show shM u v z j = nI 0 from if_neg (fun h => by obtain ⟨h1, h2, h3⟩ := h; rw [mwkN, if_neg (by omega)] at h3; omega)] at q; exact q)
      refine k_iload_n eX12_shape_180 rfl ?_
      refine k_bipush (v := nI 10) eX12_shape_181 (by decide) ?_
      refine k_iremN eX12_shape_183 (by omega) (by omega) (by omega) ?_
      refine k_goto 188 eX12_shape_184 (by decide) ?_
      refine k_iastN (j := j) eX12_shape_188 (ar61 _) (by omega) (Nat.le_of_ble_eq_true rfl) (as61 _ _) ?_
      refine k_iincN (g := 1) (a := j) (L2 := [_, _, _, _, _, _, _, _]) eX12_shape_189 (Nat.le_of_ble_eq_true rfl) rfl rfl ?_
      refine k_goto 101 eX12_shape_192 (by decide) ?_
      have q := ih (j + 1) (by omega)
      rw [fillN] at q
      refine k_forget 6 (L2 := [_, _, _, _, _, _, _, _]) rfl ?_
      refine k_forget 7 (L2 := [_, _, _, _, _, _, _, _]) rfl ?_
      rw [sa_sa, sa_at]
      first
      | (rw [show shM u v z j = nI (u % 10) from if_pos ⟨by omega, by omega, by rw [mwkN, if_pos (by omega)]; omega⟩] at q; exact q)
      | (rw [show shM u v z j = nI 0 from if_neg (fun h => by obtain ⟨h1, h2, h3⟩ := h; rw [mwkN, if_pos (by omega)] at h3; omega)] at q; exact q)
      | (rw [show shM u v z j = nI (u % 10) from if_pos ⟨by omega, by omega, by rw [mwkN, if_neg (by omega)]; omega⟩] at q; exact q)
      | (rw [show shM u v z j = nI 0 from if_neg (fun h => by obtain ⟨h1, h2, h3⟩ := h; rw [mwkN, if_neg (by omega)] at h3; omega)] at q; exact q)
    · have hnk : ¬ z / 1000 ≤ j := hc
      refine k_iload eX12_shape_101 rfl ?_
      refine k_bipush (v := nI 120) eX12_shape_103 (by decide) ?_
      refine k_icmp_geN 195 eX12_shape_105 (by decide) (by omega) (by omega) (fun c_105 => by exfalso; omega) (fun c_105 => ?_)
      refine k_iload eX12_shape_108 rfl ?_
      refine k_iload_n eX12_shape_110 rfl ?_
      refine k_sipush (v := nI 1000) eX12_shape_111 (by decide) ?_
      refine k_idivN eX12_shape_114 (by omega) (by omega) (by omega) ?_
      refine k_isub eX12_shape_115 ?_
      refine k_istore (L2 := [_, _, _, _, _, _, _, _]) eX12_shape_116 (Nat.le_of_ble_eq_true rfl) rfl ?_
      refine k_iload_n eX12_shape_118 rfl ?_
      refine k_bipush (v := nI 10) eX12_shape_119 (by decide) ?_
      refine k_idivN eX12_shape_121 (by omega) (by omega) (by omega) ?_
      refine k_iload_n eX12_shape_122 rfl ?_
      refine k_bipush (v := nI 10) eX12_shape_123 (by decide) ?_
      refine k_idivN eX12_shape_125 (by omega) (by omega) (by omega) ?_
      refine k_iconst (v := nI 1) eX12_shape_126 (by decide) ?_
      refine k_icmp_neN 145 eX12_shape_127 (by decide) (by omega) (by omega) (fun c_127 => ?_) (fun c_127 => ?_)
      · refine k_iconst (v := nI 0) eX12_shape_145 (by decide) ?_
        refine k_iaddN eX12_shape_146 ?_
        refine k_istore (L2 := [_, _, _, _, _, _, _, _]) eX12_shape_147 (Nat.le_of_ble_eq_true rfl) rfl ?_
        refine k_aload_n eX12_shape_149 rfl ?_
        refine GX12_38 eX12_shape_150 rfl ?_
        refine k_iload eX12_shape_153 rfl ?_
        refine k_iload eX12_shape_155 rfl ?_
        refine k_if_lt 187 eX12_shape_157 (by decide) (fun c_157 => ?_) (fun c_157 => by exact absurd ((sub_nneg (by omega) (by omega)).mpr (by omega)) c_157)
        refine k_iconst (v := nI 0) eX12_shape_187 (by decide) ?_
        refine k_iastN (j := j) eX12_shape_188 (ar61 _) (by omega) (Nat.le_of_ble_eq_true rfl) (as61 _ _) ?_
        refine k_iincN (g := 1) (a := j) (L2 := [_, _, _, _, _, _, _, _]) eX12_shape_189 (Nat.le_of_ble_eq_true rfl) rfl rfl ?_
        refine k_goto 101 eX12_shape_192 (by decide) ?_
        have q := ih (j + 1) (by omega)
        rw [fillN] at q
        refine k_forget 6 (L2 := [_, _, _, _, _, _, _, _]) rfl ?_
        refine k_forget 7 (L2 := [_, _, _, _, _, _, _, _]) rfl ?_
        rw [sa_sa, sa_at]
        first
        | (rw [show shM u v z j = nI (u % 10) from if_pos ⟨by omega, by omega, by rw [mwkN, if_pos (by omega)]; omega⟩] at q; exact q)
        | (rw [show shM u v z j = nI 0 from if_neg (fun h => by obtain ⟨h1, h2, h3⟩ := h; rw [mwkN, if_pos (by omega)] at h3; omega)] at q; exact q)
        | (rw [show shM u v z j = nI (u % 10) from if_pos ⟨by omega, by omega, by rw [mwkN, if_neg (by omega)]; omega⟩] at q; exact q)
        | (rw [show shM u v z j = nI 0 from if_neg (fun h => by obtain ⟨h1, h2, h3⟩ := h; rw [mwkN, if_neg (by omega)] at h3; omega)] at q; exact q)
      refine k_iload eX12_shape_130 rfl ?_
      refine k_bipush (v := nI 7) eX12_shape_132 (by decide) ?_
      refine k_idiv eX12_shape_134 (by decide) ?_
      refine k_iload_n eX12_shape_135 rfl ?_
      refine k_bipush (v := nI 10) eX12_shape_136 (by decide) ?_
      refine k_iremN eX12_shape_138 (by omega) (by omega) (by omega) ?_
      refine k_imul eX12_shape_139 ?_
      refine k_iconst (v := nI 4) eX12_shape_140 (by decide) ?_
      refine k_idiv eX12_shape_141 (by decide) ?_
      refine k_goto 146 eX12_shape_142 (by decide) ?_
      refine k_iadd eX12_shape_146 ?_
      refine k_istore (L2 := [_, _, _, _, _, _, _, _]) eX12_shape_147 (Nat.le_of_ble_eq_true rfl) rfl ?_
      refine k_aload_n eX12_shape_149 rfl ?_
      refine GX12_38 eX12_shape_150 rfl ?_
      refine k_iload eX12_shape_153 rfl ?_
      refine k_iload eX12_shape_155 rfl ?_
      refine k_if_lt 187 eX12_shape_157 (by decide) (fun c_157 => ?_) (fun c_157 => by exact absurd ((sub_nneg (by omega) (by omega)).mpr (by omega)) c_157)
      refine k_iconst (v := nI 0) eX12_shape_187 (by decide) ?_
      refine k_iastN (j := j) eX12_shape_188 (ar61 _) (by omega) (Nat.le_of_ble_eq_true rfl) (as61 _ _) ?_
      refine k_iincN (g := 1) (a := j) (L2 := [_, _, _, _, _, _, _, _]) eX12_shape_189 (Nat.le_of_ble_eq_true rfl) rfl rfl ?_
      refine k_goto 101 eX12_shape_192 (by decide) ?_
      have q := ih (j + 1) (by omega)
      rw [fillN] at q
      refine k_forget 6 (L2 := [_, _, _, _, _, _, _, _]) rfl ?_
      refine k_forget 7 (L2 := [_, _, _, _, _, _, _, _]) rfl ?_
      rw [sa_sa, sa_at]
      first
      | (rw [show shM u v z j = nI (u % 10) from if_pos ⟨by omega, by omega, by rw [mwkN, if_pos (by omega)]; omega⟩] at q; exact q)
      | (rw [show shM u v z j = nI 0 from if_neg (fun h => by obtain ⟨h1, h2, h3⟩ := h; rw [mwkN, if_pos (by omega)] at h3; omega)] at q; exact q)
      | (rw [show shM u v z j = nI (u % 10) from if_pos ⟨by omega, by omega, by rw [mwkN, if_neg (by omega)]; omega⟩] at q; exact q)
      | (rw [show shM u v z j = nI 0 from if_neg (fun h => by obtain ⟨h1, h2, h3⟩ := h; rw [mwkN, if_neg (by omega)] at h3; omega)] at q; exact q)
set_option maxHeartbeats 400000 in
theorem pX12_shape {S : k_S} {wk : Nat} (hwk : S.1 2600 = nI wk) (hwk6 : wk ≤ 6) (s e x : Int32) : Sp 2 0 0 MX12_shape [.ref 52, .int (s), .int (e), .int (x)] (hp S) (Rt (some (.int (aMShp S (S.1 2600) s e x))) (hp (mShp S s e x))) := by
  refine Sp_of (by decide +kernel) (Nat.le_of_ble_eq_true rfl) ?_
  show AW none MX12_shape 2 0 0 0 [.ref 52, .int (s), .int (e), .int (x), .null, .null, .null, .null] [] (hp S) _
  refine k_iload_n eX12_shape_0 rfl ?_
  refine k_if_lt 49 eX12_shape_1 (by decide) (fun c_1 => ?_) (fun c_1 => ?_)
  · refine k_iconst (v := nI 0) eX12_shape_49 (by decide) ?_
    refine k_istore (L2 := [_, _, _, _, _, _, _, _]) eX12_shape_50 (Nat.le_of_ble_eq_true rfl) rfl ?_
    refine k_iload eX12_shape_52 rfl ?_
    refine k_if_eqN 96 eX12_shape_54 (by decide) (by omega) (fun c_54 => ?_) (fun c_54 => by exfalso; omega)
    refine k_iconst (v := (-1)) eX12_shape_96 (by decide) ?_
    refine k_ireturn eX12_shape_97 rfl rfl ?_
    exact ⟨by rw [aMShp, if_neg (fun q => by first | exact absurd q.1.1.1 (Int32.not_le.mpr c_1) | (have h := pInN q.1.1 hu31 (by decide); omega) | exact c_20 (by have h := q.1.2; rw [(dmN hu31 (by decide) (by decide)).2] at h; exact h) | exact q.2.1 c_24 | (have h := q.2.2.1; rw [(dmN hv31 (by decide) (by decide)).1] at h; have h2 := pInN h (by omega) (by decide); omega) | (have h := q.2.2.2.1; rw [(dmN hv31 (by decide) (by decide)).2] at h; have h2 := pInN h (by omega) (by decide); omega) | exact q.2.2.2.2.1 c_58 | exact c_69 (by have h := q.2.2.2.2.2.1; rw [(dmN hz31 (by decide) (by decide)).1] at h; exact h) | exact c_80 (by have h := q.2.2.2.2.2.2.1; rw [(dmN hz31 (by decide) (by decide)).2] at h; exact h) | (have h := q.2.2.2.2.2.2.2; rw [(dmN hz31 (by decide) (by decide)).1, (dmN hz31 (by decide) (by decide)).2, Int32.le_iff_toInt_le, nI_toInt (by omega), nI_toInt (by omega)] at h; omega))], by rw [mShp, if_neg (fun q => by first | exact absurd q.1.1.1 (Int32.not_le.mpr c_1) | (have h := pInN q.1.1 hu31 (by decide); omega) | exact c_20 (by have h := q.1.2; rw [(dmN hu31 (by decide) (by decide)).2] at h; exact h) | exact q.2.1 c_24 | (have h := q.2.2.1; rw [(dmN hv31 (by decide) (by decide)).1] at h; have h2 := pInN h (by omega) (by decide); omega) | (have h := q.2.2.2.1; rw [(dmN hv31 (by decide) (by decide)).2] at h; have h2 := pInN h (by omega) (by decide); omega) | exact q.2.2.2.2.1 c_58 | exact c_69 (by have h := q.2.2.2.2.2.1; rw [(dmN hz31 (by decide) (by decide)).1] at h; exact h) | exact c_80 (by have h := q.2.2.2.2.2.2.1; rw [(dmN hz31 (by decide) (by decide)).2] at h; exact h) | (have h := q.2.2.2.2.2.2.2; rw [(dmN hz31 (by decide) (by decide)).1, (dmN hz31 (by decide) (by decide)).2, Int32.le_iff_toInt_le, nI_toInt (by omega), nI_toInt (by omega)] at h; omega))]⟩
  obtain ⟨u, hu31, rfl⟩ := k_nneg c_1
  refine k_iload_n eX12_shape_4 rfl ?_
  refine k_bipush (v := nI 10) eX12_shape_5 (by decide) ?_
  refine k_idivN eX12_shape_7 (by omega) (by omega) (by omega) ?_
  refine k_iconst (v := nI 1) eX12_shape_8 (by decide) ?_
  refine k_icmp_gtN 49 eX12_shape_9 (by decide) (by omega) (by omega) (fun c_9 => ?_) (fun c_9 => ?_)
  · refine k_iconst (v := nI 0) eX12_shape_49 (by decide) ?_
    refine k_istore (L2 := [_, _, _, _, _, _, _, _]) eX12_shape_50 (Nat.le_of_ble_eq_true rfl) rfl ?_
    refine k_iload eX12_shape_52 rfl ?_
    refine k_if_eqN 96 eX12_shape_54 (by decide) (by omega) (fun c_54 => ?_) (fun c_54 => by exfalso; omega)
    refine k_iconst (v := (-1)) eX12_shape_96 (by decide) ?_
    refine k_ireturn eX12_shape_97 rfl rfl ?_
    exact ⟨by rw [aMShp, if_neg (fun q => by first | exact absurd q.1.1.1 (Int32.not_le.mpr c_1) | (have h := pInN q.1.1 hu31 (by decide); omega) | exact c_20 (by have h := q.1.2; rw [(dmN hu31 (by decide) (by decide)).2] at h; exact h) | exact q.2.1 c_24 | (have h := q.2.2.1; rw [(dmN hv31 (by decide) (by decide)).1] at h; have h2 := pInN h (by omega) (by decide); omega) | (have h := q.2.2.2.1; rw [(dmN hv31 (by decide) (by decide)).2] at h; have h2 := pInN h (by omega) (by decide); omega) | exact q.2.2.2.2.1 c_58 | exact c_69 (by have h := q.2.2.2.2.2.1; rw [(dmN hz31 (by decide) (by decide)).1] at h; exact h) | exact c_80 (by have h := q.2.2.2.2.2.2.1; rw [(dmN hz31 (by decide) (by decide)).2] at h; exact h) | (have h := q.2.2.2.2.2.2.2; rw [(dmN hz31 (by decide) (by decide)).1, (dmN hz31 (by decide) (by decide)).2, Int32.le_iff_toInt_le, nI_toInt (by omega), nI_toInt (by omega)] at h; omega))], by rw [mShp, if_neg (fun q => by first | exact absurd q.1.1.1 (Int32.not_le.mpr c_1) | (have h := pInN q.1.1 hu31 (by decide); omega) | exact c_20 (by have h := q.1.2; rw [(dmN hu31 (by decide) (by decide)).2] at h; exact h) | exact q.2.1 c_24 | (have h := q.2.2.1; rw [(dmN hv31 (by decide) (by decide)).1] at h; have h2 := pInN h (by omega) (by decide); omega) | (have h := q.2.2.2.1; rw [(dmN hv31 (by decide) (by decide)).2] at h; have h2 := pInN h (by omega) (by decide); omega) | exact q.2.2.2.2.1 c_58 | exact c_69 (by have h := q.2.2.2.2.2.1; rw [(dmN hz31 (by decide) (by decide)).1] at h; exact h) | exact c_80 (by have h := q.2.2.2.2.2.2.1; rw [(dmN hz31 (by decide) (by decide)).2] at h; exact h) | (have h := q.2.2.2.2.2.2.2; rw [(dmN hz31 (by decide) (by decide)).1, (dmN hz31 (by decide) (by decide)).2, Int32.le_iff_toInt_le, nI_toInt (by omega), nI_toInt (by omega)] at h; omega))]⟩
  refine k_aload_n eX12_shape_12 rfl ?_
  refine k_iload_n eX12_shape_13 rfl ?_
  refine k_bipush (v := nI 10) eX12_shape_14 (by decide) ?_
  refine k_iremN eX12_shape_16 (by omega) (by omega) (by omega) ?_
  refine cV1 (M' := MX12_isWork) eX12_shape_17 mX12_153 wX12_isWork vX12_isWork ⟨_, _, _, rfl, rfl, rfl⟩ rfl (pX12_isWork (S := S) (wk := wk) hwk hwk6 (nI (u % 10))) (by decide) (Nat.le_of_ble_eq_true rfl) ?_
  refine k_ifb_eq 49 eX12_shape_20 (by decide) (fun c_20 => ?_) (fun c_20 => ?_)
  · refine k_iconst (v := nI 0) eX12_shape_49 (by decide) ?_
    refine k_istore (L2 := [_, _, _, _, _, _, _, _]) eX12_shape_50 (Nat.le_of_ble_eq_true rfl) rfl ?_
    refine k_iload eX12_shape_52 rfl ?_
    refine k_if_eqN 96 eX12_shape_54 (by decide) (by omega) (fun c_54 => ?_) (fun c_54 => by exfalso; omega)
    refine k_iconst (v := (-1)) eX12_shape_96 (by decide) ?_
    refine k_ireturn eX12_shape_97 rfl rfl ?_
    exact ⟨by rw [aMShp, if_neg (fun q => by first | exact absurd q.1.1.1 (Int32.not_le.mpr c_1) | (have h := pInN q.1.1 hu31 (by decide); omega) | exact c_20 (by have h := q.1.2; rw [(dmN hu31 (by decide) (by decide)).2] at h; exact h) | exact q.2.1 c_24 | (have h := q.2.2.1; rw [(dmN hv31 (by decide) (by decide)).1] at h; have h2 := pInN h (by omega) (by decide); omega) | (have h := q.2.2.2.1; rw [(dmN hv31 (by decide) (by decide)).2] at h; have h2 := pInN h (by omega) (by decide); omega) | exact q.2.2.2.2.1 c_58 | exact c_69 (by have h := q.2.2.2.2.2.1; rw [(dmN hz31 (by decide) (by decide)).1] at h; exact h) | exact c_80 (by have h := q.2.2.2.2.2.2.1; rw [(dmN hz31 (by decide) (by decide)).2] at h; exact h) | (have h := q.2.2.2.2.2.2.2; rw [(dmN hz31 (by decide) (by decide)).1, (dmN hz31 (by decide) (by decide)).2, Int32.le_iff_toInt_le, nI_toInt (by omega), nI_toInt (by omega)] at h; omega))], by rw [mShp, if_neg (fun q => by first | exact absurd q.1.1.1 (Int32.not_le.mpr c_1) | (have h := pInN q.1.1 hu31 (by decide); omega) | exact c_20 (by have h := q.1.2; rw [(dmN hu31 (by decide) (by decide)).2] at h; exact h) | exact q.2.1 c_24 | (have h := q.2.2.1; rw [(dmN hv31 (by decide) (by decide)).1] at h; have h2 := pInN h (by omega) (by decide); omega) | (have h := q.2.2.2.1; rw [(dmN hv31 (by decide) (by decide)).2] at h; have h2 := pInN h (by omega) (by decide); omega) | exact q.2.2.2.2.1 c_58 | exact c_69 (by have h := q.2.2.2.2.2.1; rw [(dmN hz31 (by decide) (by decide)).1] at h; exact h) | exact c_80 (by have h := q.2.2.2.2.2.2.1; rw [(dmN hz31 (by decide) (by decide)).2] at h; exact h) | (have h := q.2.2.2.2.2.2.2; rw [(dmN hz31 (by decide) (by decide)).1, (dmN hz31 (by decide) (by decide)).2, Int32.le_iff_toInt_le, nI_toInt (by omega), nI_toInt (by omega)] at h; omega))]⟩
  refine k_iload_n eX12_shape_23 rfl ?_
  refine k_if_lt 49 eX12_shape_24 (by decide) (fun c_24 => ?_) (fun c_24 => ?_)
  · refine k_iconst (v := nI 0) eX12_shape_49 (by decide) ?_
    refine k_istore (L2 := [_, _, _, _, _, _, _, _]) eX12_shape_50 (Nat.le_of_ble_eq_true rfl) rfl ?_
    refine k_iload eX12_shape_52 rfl ?_
    refine k_if_eqN 96 eX12_shape_54 (by decide) (by omega) (fun c_54 => ?_) (fun c_54 => by exfalso; omega)
    refine k_iconst (v := (-1)) eX12_shape_96 (by decide) ?_
    refine k_ireturn eX12_shape_97 rfl rfl ?_
    exact ⟨by rw [aMShp, if_neg (fun q => by first | exact absurd q.1.1.1 (Int32.not_le.mpr c_1) | (have h := pInN q.1.1 hu31 (by decide); omega) | exact c_20 (by have h := q.1.2; rw [(dmN hu31 (by decide) (by decide)).2] at h; exact h) | exact q.2.1 c_24 | (have h := q.2.2.1; rw [(dmN hv31 (by decide) (by decide)).1] at h; have h2 := pInN h (by omega) (by decide); omega) | (have h := q.2.2.2.1; rw [(dmN hv31 (by decide) (by decide)).2] at h; have h2 := pInN h (by omega) (by decide); omega) | exact q.2.2.2.2.1 c_58 | exact c_69 (by have h := q.2.2.2.2.2.1; rw [(dmN hz31 (by decide) (by decide)).1] at h; exact h) | exact c_80 (by have h := q.2.2.2.2.2.2.1; rw [(dmN hz31 (by decide) (by decide)).2] at h; exact h) | (have h := q.2.2.2.2.2.2.2; rw [(dmN hz31 (by decide) (by decide)).1, (dmN hz31 (by decide) (by decide)).2, Int32.le_iff_toInt_le, nI_toInt (by omega), nI_toInt (by omega)] at h; omega))], by rw [mShp, if_neg (fun q => by first | exact absurd q.1.1.1 (Int32.not_le.mpr c_1) | (have h := pInN q.1.1 hu31 (by decide); omega) | exact c_20 (by have h := q.1.2; rw [(dmN hu31 (by decide) (by decide)).2] at h; exact h) | exact q.2.1 c_24 | (have h := q.2.2.1; rw [(dmN hv31 (by decide) (by decide)).1] at h; have h2 := pInN h (by omega) (by decide); omega) | (have h := q.2.2.2.1; rw [(dmN hv31 (by decide) (by decide)).2] at h; have h2 := pInN h (by omega) (by decide); omega) | exact q.2.2.2.2.1 c_58 | exact c_69 (by have h := q.2.2.2.2.2.1; rw [(dmN hz31 (by decide) (by decide)).1] at h; exact h) | exact c_80 (by have h := q.2.2.2.2.2.2.1; rw [(dmN hz31 (by decide) (by decide)).2] at h; exact h) | (have h := q.2.2.2.2.2.2.2; rw [(dmN hz31 (by decide) (by decide)).1, (dmN hz31 (by decide) (by decide)).2, Int32.le_iff_toInt_le, nI_toInt (by omega), nI_toInt (by omega)] at h; omega))]⟩
  obtain ⟨v, hv31, rfl⟩ := k_nneg c_24
  refine k_iload_n eX12_shape_27 rfl ?_
  refine k_bipush (v := nI 10) eX12_shape_28 (by decide) ?_
  refine k_idivN eX12_shape_30 (by omega) (by omega) (by omega) ?_
  refine k_bipush (v := nI 7) eX12_shape_31 (by decide) ?_
  refine k_icmp_gtN 49 eX12_shape_33 (by decide) (by omega) (by omega) (fun c_33 => ?_) (fun c_33 => ?_)
  · refine k_iconst (v := nI 0) eX12_shape_49 (by decide) ?_
    refine k_istore (L2 := [_, _, _, _, _, _, _, _]) eX12_shape_50 (Nat.le_of_ble_eq_true rfl) rfl ?_
    refine k_iload eX12_shape_52 rfl ?_
    refine k_if_eqN 96 eX12_shape_54 (by decide) (by omega) (fun c_54 => ?_) (fun c_54 => by exfalso; omega)
    refine k_iconst (v := (-1)) eX12_shape_96 (by decide) ?_
    refine k_ireturn eX12_shape_97 rfl rfl ?_
    exact ⟨by rw [aMShp, if_neg (fun q => by first | exact absurd q.1.1.1 (Int32.not_le.mpr c_1) | (have h := pInN q.1.1 hu31 (by decide); omega) | exact c_20 (by have h := q.1.2; rw [(dmN hu31 (by decide) (by decide)).2] at h; exact h) | exact q.2.1 c_24 | (have h := q.2.2.1; rw [(dmN hv31 (by decide) (by decide)).1] at h; have h2 := pInN h (by omega) (by decide); omega) | (have h := q.2.2.2.1; rw [(dmN hv31 (by decide) (by decide)).2] at h; have h2 := pInN h (by omega) (by decide); omega) | exact q.2.2.2.2.1 c_58 | exact c_69 (by have h := q.2.2.2.2.2.1; rw [(dmN hz31 (by decide) (by decide)).1] at h; exact h) | exact c_80 (by have h := q.2.2.2.2.2.2.1; rw [(dmN hz31 (by decide) (by decide)).2] at h; exact h) | (have h := q.2.2.2.2.2.2.2; rw [(dmN hz31 (by decide) (by decide)).1, (dmN hz31 (by decide) (by decide)).2, Int32.le_iff_toInt_le, nI_toInt (by omega), nI_toInt (by omega)] at h; omega))], by rw [mShp, if_neg (fun q => by first | exact absurd q.1.1.1 (Int32.not_le.mpr c_1) | (have h := pInN q.1.1 hu31 (by decide); omega) | exact c_20 (by have h := q.1.2; rw [(dmN hu31 (by decide) (by decide)).2] at h; exact h) | exact q.2.1 c_24 | (have h := q.2.2.1; rw [(dmN hv31 (by decide) (by decide)).1] at h; have h2 := pInN h (by omega) (by decide); omega) | (have h := q.2.2.2.1; rw [(dmN hv31 (by decide) (by decide)).2] at h; have h2 := pInN h (by omega) (by decide); omega) | exact q.2.2.2.2.1 c_58 | exact c_69 (by have h := q.2.2.2.2.2.1; rw [(dmN hz31 (by decide) (by decide)).1] at h; exact h) | exact c_80 (by have h := q.2.2.2.2.2.2.1; rw [(dmN hz31 (by decide) (by decide)).2] at h; exact h) | (have h := q.2.2.2.2.2.2.2; rw [(dmN hz31 (by decide) (by decide)).1, (dmN hz31 (by decide) (by decide)).2, Int32.le_iff_toInt_le, nI_toInt (by omega), nI_toInt (by omega)] at h; omega))]⟩
  refine k_iload_n eX12_shape_36 rfl ?_
  refine k_bipush (v := nI 10) eX12_shape_37 (by decide) ?_
  refine k_iremN eX12_shape_39 (by omega) (by omega) (by omega) ?_
  refine k_bipush (v := nI 7) eX12_shape_40 (by decide) ?_
  refine k_icmp_gtN 49 eX12_shape_42 (by decide) (by omega) (by omega) (fun c_42 => ?_) (fun c_42 => ?_)
  · refine k_iconst (v := nI 0) eX12_shape_49 (by decide) ?_
    refine k_istore (L2 := [_, _, _, _, _, _, _, _]) eX12_shape_50 (Nat.le_of_ble_eq_true rfl) rfl ?_
    refine k_iload eX12_shape_52 rfl ?_
    refine k_if_eqN 96 eX12_shape_54 (by decide) (by omega) (fun c_54 => ?_) (fun c_54 => by exfalso; omega)
    refine k_iconst (v := (-1)) eX12_shape_96 (by decide) ?_
    refine k_ireturn eX12_shape_97 rfl rfl ?_
    exact ⟨by rw [aMShp, if_neg (fun q => by first | exact absurd q.1.1.1 (Int32.not_le.mpr c_1) | (have h := pInN q.1.1 hu31 (by decide); omega) | exact c_20 (by have h := q.1.2; rw [(dmN hu31 (by decide) (by decide)).2] at h; exact h) | exact q.2.1 c_24 | (have h := q.2.2.1; rw [(dmN hv31 (by decide) (by decide)).1] at h; have h2 := pInN h (by omega) (by decide); omega) | (have h := q.2.2.2.1; rw [(dmN hv31 (by decide) (by decide)).2] at h; have h2 := pInN h (by omega) (by decide); omega) | exact q.2.2.2.2.1 c_58 | exact c_69 (by have h := q.2.2.2.2.2.1; rw [(dmN hz31 (by decide) (by decide)).1] at h; exact h) | exact c_80 (by have h := q.2.2.2.2.2.2.1; rw [(dmN hz31 (by decide) (by decide)).2] at h; exact h) | (have h := q.2.2.2.2.2.2.2; rw [(dmN hz31 (by decide) (by decide)).1, (dmN hz31 (by decide) (by decide)).2, Int32.le_iff_toInt_le, nI_toInt (by omega), nI_toInt (by omega)] at h; omega))], by rw [mShp, if_neg (fun q => by first | exact absurd q.1.1.1 (Int32.not_le.mpr c_1) | (have h := pInN q.1.1 hu31 (by decide); omega) | exact c_20 (by have h := q.1.2; rw [(dmN hu31 (by decide) (by decide)).2] at h; exact h) | exact q.2.1 c_24 | (have h := q.2.2.1; rw [(dmN hv31 (by decide) (by decide)).1] at h; have h2 := pInN h (by omega) (by decide); omega) | (have h := q.2.2.2.1; rw [(dmN hv31 (by decide) (by decide)).2] at h; have h2 := pInN h (by omega) (by decide); omega) | exact q.2.2.2.2.1 c_58 | exact c_69 (by have h := q.2.2.2.2.2.1; rw [(dmN hz31 (by decide) (by decide)).1] at h; exact h) | exact c_80 (by have h := q.2.2.2.2.2.2.1; rw [(dmN hz31 (by decide) (by decide)).2] at h; exact h) | (have h := q.2.2.2.2.2.2.2; rw [(dmN hz31 (by decide) (by decide)).1, (dmN hz31 (by decide) (by decide)).2, Int32.le_iff_toInt_le, nI_toInt (by omega), nI_toInt (by omega)] at h; omega))]⟩
  refine k_iconst (v := nI 1) eX12_shape_45 (by decide) ?_
  refine k_goto 50 eX12_shape_46 (by decide) ?_
  refine k_istore (L2 := [_, _, _, _, _, _, _, _]) eX12_shape_50 (Nat.le_of_ble_eq_true rfl) rfl ?_
  refine k_iload eX12_shape_52 rfl ?_
  refine k_if_eqN 96 eX12_shape_54 (by decide) (by omega) (fun c_54 => by exfalso; omega) (fun c_54 => ?_)
  refine k_iload_n eX12_shape_57 rfl ?_
  refine k_if_lt 96 eX12_shape_58 (by decide) (fun c_58 => ?_) (fun c_58 => ?_)
  · refine k_iconst (v := (-1)) eX12_shape_96 (by decide) ?_
    refine k_ireturn eX12_shape_97 rfl rfl ?_
    exact ⟨by rw [aMShp, if_neg (fun q => by first | exact absurd q.1.1.1 (Int32.not_le.mpr c_1) | (have h := pInN q.1.1 hu31 (by decide); omega) | exact c_20 (by have h := q.1.2; rw [(dmN hu31 (by decide) (by decide)).2] at h; exact h) | exact q.2.1 c_24 | (have h := q.2.2.1; rw [(dmN hv31 (by decide) (by decide)).1] at h; have h2 := pInN h (by omega) (by decide); omega) | (have h := q.2.2.2.1; rw [(dmN hv31 (by decide) (by decide)).2] at h; have h2 := pInN h (by omega) (by decide); omega) | exact q.2.2.2.2.1 c_58 | exact c_69 (by have h := q.2.2.2.2.2.1; rw [(dmN hz31 (by decide) (by decide)).1] at h; exact h) | exact c_80 (by have h := q.2.2.2.2.2.2.1; rw [(dmN hz31 (by decide) (by decide)).2] at h; exact h) | (have h := q.2.2.2.2.2.2.2; rw [(dmN hz31 (by decide) (by decide)).1, (dmN hz31 (by decide) (by decide)).2, Int32.le_iff_toInt_le, nI_toInt (by omega), nI_toInt (by omega)] at h; omega))], by rw [mShp, if_neg (fun q => by first | exact absurd q.1.1.1 (Int32.not_le.mpr c_1) | (have h := pInN q.1.1 hu31 (by decide); omega) | exact c_20 (by have h := q.1.2; rw [(dmN hu31 (by decide) (by decide)).2] at h; exact h) | exact q.2.1 c_24 | (have h := q.2.2.1; rw [(dmN hv31 (by decide) (by decide)).1] at h; have h2 := pInN h (by omega) (by decide); omega) | (have h := q.2.2.2.1; rw [(dmN hv31 (by decide) (by decide)).2] at h; have h2 := pInN h (by omega) (by decide); omega) | exact q.2.2.2.2.1 c_58 | exact c_69 (by have h := q.2.2.2.2.2.1; rw [(dmN hz31 (by decide) (by decide)).1] at h; exact h) | exact c_80 (by have h := q.2.2.2.2.2.2.1; rw [(dmN hz31 (by decide) (by decide)).2] at h; exact h) | (have h := q.2.2.2.2.2.2.2; rw [(dmN hz31 (by decide) (by decide)).1, (dmN hz31 (by decide) (by decide)).2, Int32.le_iff_toInt_le, nI_toInt (by omega), nI_toInt (by omega)] at h; omega))]⟩
  obtain ⟨z, hz31, rfl⟩ := k_nneg c_58
  refine k_iload_n eX12_shape_61 rfl ?_
  refine k_sipush (v := nI 1000) eX12_shape_62 (by decide) ?_
  refine k_idivN eX12_shape_65 (by omega) (by omega) (by omega) ?_
  refine cS1 (M' := MX12_isDay) eX12_shape_66 mX12_131 wX12_isDay sX12_isDay rfl (pX12_isDay (nI (z / 1000))) (by decide) (Nat.le_of_ble_eq_true rfl) ?_
  refine k_ifb_eq 96 eX12_shape_69 (by decide) (fun c_69 => ?_) (fun c_69 => ?_)
  · refine k_iconst (v := (-1)) eX12_shape_96 (by decide) ?_
    refine k_ireturn eX12_shape_97 rfl rfl ?_
    exact ⟨by rw [aMShp, if_neg (fun q => by first | exact absurd q.1.1.1 (Int32.not_le.mpr c_1) | (have h := pInN q.1.1 hu31 (by decide); omega) | exact c_20 (by have h := q.1.2; rw [(dmN hu31 (by decide) (by decide)).2] at h; exact h) | exact q.2.1 c_24 | (have h := q.2.2.1; rw [(dmN hv31 (by decide) (by decide)).1] at h; have h2 := pInN h (by omega) (by decide); omega) | (have h := q.2.2.2.1; rw [(dmN hv31 (by decide) (by decide)).2] at h; have h2 := pInN h (by omega) (by decide); omega) | exact q.2.2.2.2.1 c_58 | exact c_69 (by have h := q.2.2.2.2.2.1; rw [(dmN hz31 (by decide) (by decide)).1] at h; exact h) | exact c_80 (by have h := q.2.2.2.2.2.2.1; rw [(dmN hz31 (by decide) (by decide)).2] at h; exact h) | (have h := q.2.2.2.2.2.2.2; rw [(dmN hz31 (by decide) (by decide)).1, (dmN hz31 (by decide) (by decide)).2, Int32.le_iff_toInt_le, nI_toInt (by omega), nI_toInt (by omega)] at h; omega))], by rw [mShp, if_neg (fun q => by first | exact absurd q.1.1.1 (Int32.not_le.mpr c_1) | (have h := pInN q.1.1 hu31 (by decide); omega) | exact c_20 (by have h := q.1.2; rw [(dmN hu31 (by decide) (by decide)).2] at h; exact h) | exact q.2.1 c_24 | (have h := q.2.2.1; rw [(dmN hv31 (by decide) (by decide)).1] at h; have h2 := pInN h (by omega) (by decide); omega) | (have h := q.2.2.2.1; rw [(dmN hv31 (by decide) (by decide)).2] at h; have h2 := pInN h (by omega) (by decide); omega) | exact q.2.2.2.2.1 c_58 | exact c_69 (by have h := q.2.2.2.2.2.1; rw [(dmN hz31 (by decide) (by decide)).1] at h; exact h) | exact c_80 (by have h := q.2.2.2.2.2.2.1; rw [(dmN hz31 (by decide) (by decide)).2] at h; exact h) | (have h := q.2.2.2.2.2.2.2; rw [(dmN hz31 (by decide) (by decide)).1, (dmN hz31 (by decide) (by decide)).2, Int32.le_iff_toInt_le, nI_toInt (by omega), nI_toInt (by omega)] at h; omega))]⟩
  refine k_iload_n eX12_shape_72 rfl ?_
  refine k_sipush (v := nI 1000) eX12_shape_73 (by decide) ?_
  refine k_iremN eX12_shape_76 (by omega) (by omega) (by omega) ?_
  refine cS1 (M' := MX12_isDay) eX12_shape_77 mX12_131 wX12_isDay sX12_isDay rfl (pX12_isDay (nI (z % 1000))) (by decide) (Nat.le_of_ble_eq_true rfl) ?_
  refine k_ifb_eq 96 eX12_shape_80 (by decide) (fun c_80 => ?_) (fun c_80 => ?_)
  · refine k_iconst (v := (-1)) eX12_shape_96 (by decide) ?_
    refine k_ireturn eX12_shape_97 rfl rfl ?_
    exact ⟨by rw [aMShp, if_neg (fun q => by first | exact absurd q.1.1.1 (Int32.not_le.mpr c_1) | (have h := pInN q.1.1 hu31 (by decide); omega) | exact c_20 (by have h := q.1.2; rw [(dmN hu31 (by decide) (by decide)).2] at h; exact h) | exact q.2.1 c_24 | (have h := q.2.2.1; rw [(dmN hv31 (by decide) (by decide)).1] at h; have h2 := pInN h (by omega) (by decide); omega) | (have h := q.2.2.2.1; rw [(dmN hv31 (by decide) (by decide)).2] at h; have h2 := pInN h (by omega) (by decide); omega) | exact q.2.2.2.2.1 c_58 | exact c_69 (by have h := q.2.2.2.2.2.1; rw [(dmN hz31 (by decide) (by decide)).1] at h; exact h) | exact c_80 (by have h := q.2.2.2.2.2.2.1; rw [(dmN hz31 (by decide) (by decide)).2] at h; exact h) | (have h := q.2.2.2.2.2.2.2; rw [(dmN hz31 (by decide) (by decide)).1, (dmN hz31 (by decide) (by decide)).2, Int32.le_iff_toInt_le, nI_toInt (by omega), nI_toInt (by omega)] at h; omega))], by rw [mShp, if_neg (fun q => by first | exact absurd q.1.1.1 (Int32.not_le.mpr c_1) | (have h := pInN q.1.1 hu31 (by decide); omega) | exact c_20 (by have h := q.1.2; rw [(dmN hu31 (by decide) (by decide)).2] at h; exact h) | exact q.2.1 c_24 | (have h := q.2.2.1; rw [(dmN hv31 (by decide) (by decide)).1] at h; have h2 := pInN h (by omega) (by decide); omega) | (have h := q.2.2.2.1; rw [(dmN hv31 (by decide) (by decide)).2] at h; have h2 := pInN h (by omega) (by decide); omega) | exact q.2.2.2.2.1 c_58 | exact c_69 (by have h := q.2.2.2.2.2.1; rw [(dmN hz31 (by decide) (by decide)).1] at h; exact h) | exact c_80 (by have h := q.2.2.2.2.2.2.1; rw [(dmN hz31 (by decide) (by decide)).2] at h; exact h) | (have h := q.2.2.2.2.2.2.2; rw [(dmN hz31 (by decide) (by decide)).1, (dmN hz31 (by decide) (by decide)).2, Int32.le_iff_toInt_le, nI_toInt (by omega), nI_toInt (by omega)] at h; omega))]⟩
  refine k_iload_n eX12_shape_83 rfl ?_
  refine k_sipush (v := nI 1000) eX12_shape_84 (by decide) ?_
  refine k_idivN eX12_shape_87 (by omega) (by omega) (by omega) ?_
  refine k_iload_n eX12_shape_88 rfl ?_
  refine k_sipush (v := nI 1000) eX12_shape_89 (by decide) ?_
  refine k_iremN eX12_shape_92 (by omega) (by omega) (by omega) ?_
  refine k_icmp_leN 98 eX12_shape_93 (by decide) (by omega) (by omega) (fun c_93 => ?_) (fun c_93 => ?_)
  · refine k_iconst (v := nI 0) eX12_shape_98 (by decide) ?_
    refine k_istore (L2 := [_, _, _, _, _, _, _, _]) eX12_shape_99 (Nat.le_of_ble_eq_true rfl) rfl ?_
    have hz1 : z / 1000 ≤ z % 1000 := c_93
    have hC : pShp (S.1 2600) (nI u) (nI v) (nI z) := by
      refine ⟨⟨pNIn (by omega) (by decide), ?_⟩, c_24, ?_, ?_, c_58, ?_, ?_, ?_⟩
      · rw [(dmN hu31 (by decide) (by decide)).2]; exact c_20
      · rw [(dmN hv31 (by decide) (by decide)).1]; exact pNIn (by omega) (by decide)
      · rw [(dmN hv31 (by decide) (by decide)).2]; exact pNIn (by omega) (by decide)
      · rw [(dmN hz31 (by decide) (by decide)).1]; exact c_69
      · rw [(dmN hz31 (by decide) (by decide)).2]; exact c_80
      · rw [(dmN hz31 (by decide) (by decide)).1, (dmN hz31 (by decide) (by decide)).2]; exact nI_le c_93 (by omega)
    have hz2 : z % 1000 < 120 := (pD_N (by omega)).mp c_80
    have huw : u % 10 < wk := by have h := c_20; rw [hwk, pW_N (by omega) (by omega)] at h; exact h
    have eR : mshR S (nI u) (nI v) (nI z) = fillN (shM u v z) (S.2.1 61) 120 := by rw [mshR, ix_nI hu31, ix_nI hv31, ix_nI hz31]
    refine k_heap (h2 := hp (sa S 61 (fillN (shM u v z) (S.2.1 61) 0))) (by rw [fillN, sa_self]) ?_
    refine lX12_shape (by decide) (S := S) (u := u) (v := v) (z := z) (by omega) hv31 (by omega) (by omega) hz31 hz1 hz2 ?_ 120 0 (by omega)
    have hplT : PlanOk (vP (vM S) (fillN (shM u v z) (S.2.1 61) 120)) := shM_ok _ _ huw hwk6
    rw [← eR] at hplT ⊢
    rw [← vM_sa] at hplT
    refine k_aload_n eX12_shape_195 rfl ?_
    refine cV0 (M' := MX12_noChanges) eX12_shape_196 mX12_159 wX12_noChanges vX12_noChanges ⟨_, _, _, rfl, rfl, rfl⟩ rfl (pX12_noChanges (S := (sa S 61 (mshR S (nI u) (nI v) (nI z)))) ) (by decide) (Nat.le_of_ble_eq_true rfl) ?_
    refine k_aload_n eX12_shape_199 rfl ?_
    refine k_iconst (v := nI 0) eX12_shape_200 (by decide) ?_
    refine k_bipush (v := nI 119) eX12_shape_201 (by decide) ?_
    refine cV1 (M' := MX12_workDays) eX12_shape_203 mX12_162 wX12_workDays vX12_workDays ⟨_, _, _, rfl, rfl, rfl⟩ rfl (pX12_workDays (S := (si (si (sa S 61 (mshR S (nI u) (nI v) (nI z))) 2626 (nI 0)) 2625 (nI 0))) (V := vM (sa S 61 (mshR S (nI u) (nI v) (nI z)))) (x := 0) (y := 119) rfl hplT (by omega) (by omega)) (by decide) (Nat.le_of_ble_eq_true rfl) ?_
    refine k_ireturn eX12_shape_206 rfl rfl ?_
    exact ⟨by rw [aMShp, if_pos hC] <;> rfl, by rw [mShp, if_pos hC] <;> rfl⟩
  refine k_iconst (v := (-1)) eX12_shape_96 (by decide) ?_
  refine k_ireturn eX12_shape_97 rfl rfl ?_
  exact ⟨by rw [aMShp, if_neg (fun q => by first | exact absurd q.1.1.1 (Int32.not_le.mpr c_1) | (have h := pInN q.1.1 hu31 (by decide); omega) | exact c_20 (by have h := q.1.2; rw [(dmN hu31 (by decide) (by decide)).2] at h; exact h) | exact q.2.1 c_24 | (have h := q.2.2.1; rw [(dmN hv31 (by decide) (by decide)).1] at h; have h2 := pInN h (by omega) (by decide); omega) | (have h := q.2.2.2.1; rw [(dmN hv31 (by decide) (by decide)).2] at h; have h2 := pInN h (by omega) (by decide); omega) | exact q.2.2.2.2.1 c_58 | exact c_69 (by have h := q.2.2.2.2.2.1; rw [(dmN hz31 (by decide) (by decide)).1] at h; exact h) | exact c_80 (by have h := q.2.2.2.2.2.2.1; rw [(dmN hz31 (by decide) (by decide)).2] at h; exact h) | (have h := q.2.2.2.2.2.2.2; rw [(dmN hz31 (by decide) (by decide)).1, (dmN hz31 (by decide) (by decide)).2, Int32.le_iff_toInt_le, nI_toInt (by omega), nI_toInt (by omega)] at h; omega))], by rw [mShp, if_neg (fun q => by first | exact absurd q.1.1.1 (Int32.not_le.mpr c_1) | (have h := pInN q.1.1 hu31 (by decide); omega) | exact c_20 (by have h := q.1.2; rw [(dmN hu31 (by decide) (by decide)).2] at h; exact h) | exact q.2.1 c_24 | (have h := q.2.2.1; rw [(dmN hv31 (by decide) (by decide)).1] at h; have h2 := pInN h (by omega) (by decide); omega) | (have h := q.2.2.2.1; rw [(dmN hv31 (by decide) (by decide)).2] at h; have h2 := pInN h (by omega) (by decide); omega) | exact q.2.2.2.2.1 c_58 | exact c_69 (by have h := q.2.2.2.2.2.1; rw [(dmN hz31 (by decide) (by decide)).1] at h; exact h) | exact c_80 (by have h := q.2.2.2.2.2.2.1; rw [(dmN hz31 (by decide) (by decide)).2] at h; exact h) | (have h := q.2.2.2.2.2.2.2; rw [(dmN hz31 (by decide) (by decide)).1, (dmN hz31 (by decide) (by decide)).2, Int32.le_iff_toInt_le, nI_toInt (by omega), nI_toInt (by omega)] at h; omega))]⟩
theorem gpL_le (V : k_V) (d : Nat) : ∀ n, (gpL V d n).1 ≤ n
  | 0 => Nat.le_refl _
  | n + 1 => by have := gpL_le V d n; rw [gpL]; split <;> simp <;> omega
theorem gpL_fit (V : k_V) (d : Nat) : ∀ n, fitv V (gpL V d n).1 d = (gpL V d n).2
  | 0 => rfl
  | n + 1 => by have := gpL_fit V d n; rw [gpL]; split <;> simp [this]
/-- the plan as it stands when work w is tried -/
def gPl (V : k_V) (dd : Nat) : Nat → Nat → Int32
  | 0 => V 6
  | w + 1 => va_up (V 6) dd (nI w)
def lsM (V : k_V) (dn rn dd w : Nat) : Int32 := mnG (fun r => gai (vP V (va_up (V 6) dd (nI w))) dn r 120) (rn - 1)
def gbB (F : Nat → Int32) : Nat → Int32
  | 0 => -1
  | n + 1 => nI (frL F n).1
def gbM (F : Nat → Int32) : Nat → Int32
  | 0 => nI 0
  | n + 1 => (frL F n).2
def aMGrp (V : k_V) (dn wk rn : Nat) (x w : Int32) : Int32 := if pD x ∧ pIn w (nI 0) (nI 2) then (if rn = 0 then -5 else if w = nI 2 then nI (frL (lsM V dn rn (ix x)) (wk - 1)).1 else if w = 0 then (gpL V (ix x) (rn - 1)).2 else nI (gpL V (ix x) (rn - 1)).1) else -2000000000
theorem gPl_ok {V : k_V} (hpl : PlanOk V) {dd w : Nat} (hw : w < 6) : PlanOk (vP V (va_up (V 6) dd (nI w))) := by
  intro d hd
  have e : vP V (va_up (V 6) dd (nI w)) 6 d = if d = dd then nI w else V 6 d := rfl
  unfold pw
  by_cases c : d = dd
  · rw [e, if_pos c, ix_nI (by omega)]; exact ⟨rfl, by omega⟩
  · rw [e, if_neg c]; exact hpl d hd
set_option maxHeartbeats 400000 in
theorem lX12_groupA {d : Nat} {Po : Option Value → k_H → Prop} (hdd : 3 ≤ d) {S : k_S} {V : k_V} (hV : vM S = V) (hpl : PlanOk V) {rn : Nat} (hrn : S.1 2604 = nI rn) (hrn5 : rn ≤ 5) (hr0 : 0 < rn) {dd : Nat} (hdd2 : dd < 120) {q : Nat} (hq : q ≤ 2) (kx : AW none MX12_group d 0 0 76 [.ref 52, .int (nI dd), .int (nI q), .int (nI ((gpL V dd ((rn - 1))).1)), .int (nI (((rn - 1)) + 1)), .null, .null, .null, .null, .null, .null] [] (hp S) Po) : ∀ (n j : Nat), j + n = (rn - 1) → AW none MX12_group d 0 0 34 [.ref 52, .int (nI dd), .int (nI q), .int (nI ((gpL V dd j).1)), .int (nI (j + 1)), .null, .null, .null, .null, .null, .null] [] (hp S) Po := by
  intro n
  induction n with
  | zero =>
    intro j hj
    rw [show j = (rn - 1) by omega]
    refine k_iload eX12_group_34 rfl ?_
    refine k_aload_n eX12_group_36 rfl ?_
    refine GX12_124 eX12_group_37 rfl ?_
    refine k_topi (nI rn) hrn ?_
    refine k_icmp_geN 76 eX12_group_40 (by decide) (by omega) (by omega) (fun c_40 => ?_) (fun c_40 => by exfalso; omega)
    exact kx
  | succ n ih =>
    intro j hj
    have hgl := gpL_le V dd j
    refine k_iload eX12_group_34 rfl ?_
    refine k_aload_n eX12_group_36 rfl ?_
    refine GX12_124 eX12_group_37 rfl ?_
    refine k_topi (nI rn) hrn ?_
    refine k_icmp_geN 76 eX12_group_40 (by decide) (by omega) (by omega) (fun c_40 => by exfalso; omega) (fun c_40 => ?_)
    refine k_aload_n eX12_group_43 rfl ?_
    refine k_iload eX12_group_44 rfl ?_
    refine k_iload_n eX12_group_46 rfl ?_
    refine k_iconst (v := nI 0) eX12_group_47 (by decide) ?_
    refine k_iconst (v := nI 0) eX12_group_48 (by decide) ?_
    refine cV1 (M' := MX12_sumOf) eX12_group_49 mX12_178 wX12_sumOf vX12_sumOf ⟨_, _, _, rfl, rfl, rfl⟩ rfl (pX12_sumOf (S := S) (V := V) (r := (j + 1)) (dd := dd) (q := 0) (g := 0) hV hpl (by omega) (by omega) (by omega) (by omega)) (by omega) (Nat.le_of_ble_eq_true rfl) ?_
    refine k_aload_n eX12_group_52 rfl ?_
    refine k_iload_n eX12_group_53 rfl ?_
    refine k_iload_n eX12_group_54 rfl ?_
    refine k_iconst (v := nI 0) eX12_group_55 (by decide) ?_
    refine k_iconst (v := nI 0) eX12_group_56 (by decide) ?_
    refine cV1 (M' := MX12_sumOf) eX12_group_57 mX12_178 wX12_sumOf vX12_sumOf ⟨_, _, _, rfl, rfl, rfl⟩ rfl (pX12_sumOf (S := S) (V := V) (r := ((gpL V dd j).1)) (dd := dd) (q := 0) (g := 0) hV hpl (by omega) (by omega) (by omega) (by omega)) (by omega) (Nat.le_of_ble_eq_true rfl) ?_
    refine k_icmp_ge 68 eX12_group_60 (by decide) (fun c_60 => ?_) (fun c_60 => ?_)
    · refine k_iload_n eX12_group_68 rfl ?_
      refine k_istore_n (L2 := [_, _, _, _, _, _, _, _, _, _, _]) eX12_group_69 (Nat.le_of_ble_eq_true rfl) rfl ?_
      refine k_iincN (g := 1) (a := (j + 1)) (L2 := [_, _, _, _, _, _, _, _, _, _, _]) eX12_group_70 (Nat.le_of_ble_eq_true rfl) rfl rfl ?_
      refine k_goto 34 eX12_group_73 (by decide) ?_
      have q9 := ih (j + 1) (by omega)
      rw [gpL, ← smV_fit V (j + 1), ← gpL_fit, ← smV_fit V (gpL V dd j).1] at q9
      first | (rw [if_neg (Int32.not_lt.mpr c_60)] at q9; exact q9) | (rw [if_pos (Int32.not_le.mp c_60)] at q9; exact q9)
    refine k_iload eX12_group_63 rfl ?_
    refine k_goto 69 eX12_group_65 (by decide) ?_
    refine k_istore_n (L2 := [_, _, _, _, _, _, _, _, _, _, _]) eX12_group_69 (Nat.le_of_ble_eq_true rfl) rfl ?_
    refine k_iincN (g := 1) (a := (j + 1)) (L2 := [_, _, _, _, _, _, _, _, _, _, _]) eX12_group_70 (Nat.le_of_ble_eq_true rfl) rfl rfl ?_
    refine k_goto 34 eX12_group_73 (by decide) ?_
    have q9 := ih (j + 1) (by omega)
    rw [gpL, ← smV_fit V (j + 1), ← gpL_fit, ← smV_fit V (gpL V dd j).1] at q9
    first | (rw [if_neg (Int32.not_lt.mpr c_60)] at q9; exact q9) | (rw [if_pos (Int32.not_le.mp c_60)] at q9; exact q9)
set_option maxHeartbeats 400000 in
theorem lX12_groupB {d : Nat} {Po : Option Value → k_H → Prop} (hdd : 4 ≤ d) {S : k_S} {V : k_V} (hV : vM S = V) {dn : Nat} (hdn : S.1 2611 = nI dn) (hcd : CntOk V dn) (hpl : PlanOk V) (h0 : RstOk V) {rn : Nat} (hrn : S.1 2604 = nI rn) (hrn5 : rn ≤ 5) (hr0 : 0 < rn) {dd z y w : Nat} (B M : Int32) (X : Int32) (kx : AW none MX12_group d 0 0 181 [.ref 52, .int (nI dd), .int (nI z), .int (nI y), .int (X), .int (B), .int (M), .int (nI w), .int ((mnG (fun r => gai V dn r 120) ((rn - 1)))), .int (nI (((rn - 1)) + 1)), .null] [] (hp S) Po) : ∀ (n j : Nat), j + n = (rn - 1) → AW none MX12_group d 0 0 142 [.ref 52, .int (nI dd), .int (nI z), .int (nI y), .int (X), .int (B), .int (M), .int (nI w), .int ((mnG (fun r => gai V dn r 120) j)), .int (nI (j + 1)), .null] [] (hp S) Po := by
  intro n
  induction n with
  | zero =>
    intro j hj
    rw [show j = (rn - 1) by omega]
    refine k_iload eX12_group_142 rfl ?_
    refine k_aload_n eX12_group_144 rfl ?_
    refine GX12_124 eX12_group_145 rfl ?_
    refine k_topi (nI rn) hrn ?_
    refine k_icmp_geN 181 eX12_group_148 (by decide) (by omega) (by omega) (fun c_148 => ?_) (fun c_148 => by exfalso; omega)
    exact kx
  | succ n ih =>
    intro j hj
    refine k_iload eX12_group_142 rfl ?_
    refine k_aload_n eX12_group_144 rfl ?_
    refine GX12_124 eX12_group_145 rfl ?_
    refine k_topi (nI rn) hrn ?_
    refine k_icmp_geN 181 eX12_group_148 (by decide) (by omega) (by omega) (fun c_148 => by exfalso; omega) (fun c_148 => ?_)
    refine k_aload_n eX12_group_151 rfl ?_
    refine k_iload eX12_group_152 rfl ?_
    refine cV1 (M' := MX12_gainedBy) eX12_group_154 mX12_189 wX12_gainedBy vX12_gainedBy ⟨_, _, _, rfl, rfl, rfl⟩ rfl (pX12_gainedBy (S := S) (V := V) (dn := dn) (r := (j + 1)) hV hdn hcd hpl h0 (by omega)) (by omega) (Nat.le_of_ble_eq_true rfl) ?_
    refine k_istore (L2 := [_, _, _, _, _, _, _, _, _, _, _]) eX12_group_157 (Nat.le_of_ble_eq_true rfl) rfl ?_
    refine k_iload eX12_group_159 rfl ?_
    refine k_iload eX12_group_161 rfl ?_
    refine k_icmp_ge 171 eX12_group_163 (by decide) (fun c_163 => ?_) (fun c_163 => ?_)
    · refine k_iload eX12_group_171 rfl ?_
      refine k_istore (L2 := [_, _, _, _, _, _, _, _, _, _, _]) eX12_group_173 (Nat.le_of_ble_eq_true rfl) rfl ?_
      refine k_iincN (g := 1) (a := (j + 1)) (L2 := [_, _, _, _, _, _, _, _, _, _, _]) eX12_group_175 (Nat.le_of_ble_eq_true rfl) rfl rfl ?_
      refine k_goto 142 eX12_group_178 (by decide) ?_
      refine k_forget 10 (L2 := [_, _, _, _, _, _, _, _, _, _, _]) rfl ?_
      have q9 := ih (j + 1) (by omega)
      rw [mnG, mn] at q9
      first | (rw [if_neg (Int32.not_lt.mpr c_163)] at q9; exact q9) | (rw [if_pos (Int32.not_le.mp c_163)] at q9; exact q9)
    refine k_iload eX12_group_166 rfl ?_
    refine k_goto 173 eX12_group_168 (by decide) ?_
    refine k_istore (L2 := [_, _, _, _, _, _, _, _, _, _, _]) eX12_group_173 (Nat.le_of_ble_eq_true rfl) rfl ?_
    refine k_iincN (g := 1) (a := (j + 1)) (L2 := [_, _, _, _, _, _, _, _, _, _, _]) eX12_group_175 (Nat.le_of_ble_eq_true rfl) rfl rfl ?_
    refine k_goto 142 eX12_group_178 (by decide) ?_
    refine k_forget 10 (L2 := [_, _, _, _, _, _, _, _, _, _, _]) rfl ?_
    have q9 := ih (j + 1) (by omega)
    rw [mnG, mn] at q9
    first | (rw [if_neg (Int32.not_lt.mpr c_163)] at q9; exact q9) | (rw [if_pos (Int32.not_le.mp c_163)] at q9; exact q9)
set_option maxHeartbeats 400000 in
theorem lX12_groupC {d : Nat} {Po : Option Value → k_H → Prop} (hdd : 4 ≤ d) {S : k_S} {V : k_V} (hV : vM S = V) {dn : Nat} (hdn : S.1 2611 = nI dn) (hcd : CntOk V dn) (hpl : PlanOk V) (h0 : RstOk V) {rn : Nat} (hrn : S.1 2604 = nI rn) (hrn5 : rn ≤ 5) (hr0 : 0 < rn) {wk : Nat} (hwk : S.1 2600 = nI wk) (hwk1 : 1 ≤ wk) (hwk6 : wk ≤ 6) {dd z y : Nat} (hdd2 : dd < 120) (X : Int32) (kx : AW none MX12_group d 0 0 207 [.ref 52, .int (nI dd), .int (nI z), .int (nI y), .int (X), .int ((gbB (lsM V dn rn dd) wk)), .int ((gbM (lsM V dn rn dd) wk)), .int (nI wk), .null, .null, .null] [] (hp (sa S 61 (gPl V dd wk))) Po) : ∀ (n j : Nat), j + n = wk → AW none MX12_group d 0 0 115 [.ref 52, .int (nI dd), .int (nI z), .int (nI y), .int (X), .int ((gbB (lsM V dn rn dd) j)), .int ((gbM (lsM V dn rn dd) j)), .int (nI j), .null, .null, .null] [] (hp (sa S 61 (gPl V dd j))) Po := by
  intro n
  induction n with
  | zero =>
    intro j hj
    rw [show j = wk by omega]
    refine k_iload eX12_group_115 rfl ?_
    refine k_aload_n eX12_group_117 rfl ?_
    refine GX12_7 eX12_group_118 rfl ?_
    refine k_topi (nI wk) hwk ?_
    refine k_icmp_geN 207 eX12_group_121 (by decide) (by omega) (by omega) (fun c_121 => ?_) (fun c_121 => by exfalso; omega)
    exact kx
  | succ n ih =>
    intro j hj
    refine k_iload eX12_group_115 rfl ?_
    refine k_aload_n eX12_group_117 rfl ?_
    refine GX12_7 eX12_group_118 rfl ?_
    refine k_topi (nI wk) hwk ?_
    refine k_icmp_geN 207 eX12_group_121 (by decide) (by omega) (by omega) (fun c_121 => by exfalso; omega) (fun c_121 => ?_)
    refine k_aload_n eX12_group_124 rfl ?_
    refine GX12_38 eX12_group_125 rfl ?_
    refine k_iload_n eX12_group_128 rfl ?_
    refine k_iload eX12_group_129 rfl ?_
    refine k_iastN (j := dd) eX12_group_131 (ar61 _) (by omega) (Nat.le_of_ble_eq_true rfl) (as61 _ _) ?_
    obtain ⟨T, hT⟩ : ∃ T, sa S 61 (va_up (V 6) dd (nI j)) = T := ⟨_, rfl⟩
    have hV2 : vM T = (vP V (va_up (V 6) dd (nI j))) := by rw [← hT, vM_sa, hV]
    have hdn2 : T.1 2611 = nI dn := by rw [← hT]; exact hdn
    have hrn2 : T.1 2604 = nI rn := by rw [← hT]; exact hrn
    have hwk2 : T.1 2600 = nI wk := by rw [← hT]; exact hwk
    have hcd2 : CntOk (vP V (va_up (V 6) dd (nI j))) dn := hcd
    have hpl2 : PlanOk (vP V (va_up (V 6) dd (nI j))) := gPl_ok hpl (by omega)
    have h02 : RstOk (vP V (va_up (V 6) dd (nI j))) := h0
    refine k_heap (h2 := hp T) (by rw [sa_sa, sa_at, ← hT]; cases j with | zero => rw [gPl] | succ i => rw [gPl, va_va]) ?_
    refine k_aload_n eX12_group_132 rfl ?_
    refine k_iconst (v := nI 0) eX12_group_133 (by decide) ?_
    refine cV1 (M' := MX12_gainedBy) eX12_group_134 mX12_189 wX12_gainedBy vX12_gainedBy ⟨_, _, _, rfl, rfl, rfl⟩ rfl (pX12_gainedBy (S := T) (V := vP V (va_up (V 6) dd (nI j))) (dn := dn) (r := 0) hV2 hdn2 hcd2 hpl2 h02 (by omega)) (by omega) (Nat.le_of_ble_eq_true rfl) ?_
    refine k_istore (L2 := [_, _, _, _, _, _, _, _, _, _, _]) eX12_group_137 (Nat.le_of_ble_eq_true rfl) rfl ?_
    refine k_iconst (v := nI 1) eX12_group_139 (by decide) ?_
    refine k_istore (L2 := [_, _, _, _, _, _, _, _, _, _, _]) eX12_group_140 (Nat.le_of_ble_eq_true rfl) rfl ?_
    refine k_loc (L2 := [_, _, _, _, _, _, _, _, .int (mnG (fun r => gai (vP V (va_up (V 6) dd (nI j))) dn r 120) 0), .int (nI (0 + 1)), _]) rfl ?_
    refine lX12_groupB (by omega) (S := T) hV2 hdn2 hcd2 hpl2 h02 hrn2 hrn5 hr0 (dd := dd) (z := z) (y := y) (w := j) _ _ X ?_ (rn - 1) 0 (by omega)
    refine k_loc (L2 := [_, _, _, _, _, _, _, _, .int (lsM V dn rn dd j), _, _]) rfl ?_
    refine k_iload eX12_group_181 rfl ?_
    refine k_if_lt 193 eX12_group_183 (by decide) (fun c_183 => ?_) (fun c_183 => ?_)
    · refine k_iload eX12_group_193 rfl ?_
      refine k_istore (L2 := [_, _, _, _, _, _, _, _, _, _, _]) eX12_group_195 (Nat.le_of_ble_eq_true rfl) rfl ?_
      refine k_iload eX12_group_197 rfl ?_
      refine k_istore (L2 := [_, _, _, _, _, _, _, _, _, _, _]) eX12_group_199 (Nat.le_of_ble_eq_true rfl) rfl ?_
      refine k_iincN (g := 1) (a := j) (L2 := [_, _, _, _, _, _, _, _, _, _, _]) eX12_group_201 (Nat.le_of_ble_eq_true rfl) rfl rfl ?_
      refine k_goto 115 eX12_group_204 (by decide) ?_
      refine k_forget 8 (L2 := [_, _, _, _, _, _, _, _, _, _, _]) rfl ?_
      refine k_forget 9 (L2 := [_, _, _, _, _, _, _, _, _, _, _]) rfl ?_
      have q9 := ih (j + 1) (by omega)
      refine k_forget 8 (L2 := [_, _, _, _, _, _, _, _, _, _, _]) rfl ?_
      refine k_forget 9 (L2 := [_, _, _, _, _, _, _, _, _, _, _]) rfl ?_
      rw [gPl, hT] at q9
      cases j with
      | zero =>
        first
        | exact absurd (show (-1 : Int32) < 0 by decide) c_183
        | exact q9
      | succ i =>
        have hfl := frL_le (lsM V dn rn dd) i
        first
        | exact absurd c_183 (nI_pos (by omega))
        | (rw [gbB, gbM, frL, if_neg (show ¬ (frL (lsM V dn rn dd) i).2 < (lsM V dn rn dd) (i + 1) from Int32.not_lt.mpr c_190)] at q9; exact q9)
        | (rw [gbB, gbM, frL, if_pos (show (frL (lsM V dn rn dd) i).2 < (lsM V dn rn dd) (i + 1) from Int32.not_le.mp c_190)] at q9; exact q9)
    refine k_iload eX12_group_186 rfl ?_
    refine k_iload eX12_group_188 rfl ?_
    refine k_icmp_le 201 eX12_group_190 (by decide) (fun c_190 => ?_) (fun c_190 => ?_)
    · refine k_iincN (g := 1) (a := j) (L2 := [_, _, _, _, _, _, _, _, _, _, _]) eX12_group_201 (Nat.le_of_ble_eq_true rfl) rfl rfl ?_
      refine k_goto 115 eX12_group_204 (by decide) ?_
      refine k_forget 8 (L2 := [_, _, _, _, _, _, _, _, _, _, _]) rfl ?_
      refine k_forget 9 (L2 := [_, _, _, _, _, _, _, _, _, _, _]) rfl ?_
      have q9 := ih (j + 1) (by omega)
      refine k_forget 8 (L2 := [_, _, _, _, _, _, _, _, _, _, _]) rfl ?_
      refine k_forget 9 (L2 := [_, _, _, _, _, _, _, _, _, _, _]) rfl ?_
      rw [gPl, hT] at q9
      cases j with
      | zero =>
        first
        | exact absurd (show (-1 : Int32) < 0 by decide) c_183
        | exact q9
      | succ i =>
        have hfl := frL_le (lsM V dn rn dd) i
        first
        | exact absurd c_183 (nI_pos (by omega))
        | (rw [gbB, gbM, frL, if_neg (show ¬ (frL (lsM V dn rn dd) i).2 < (lsM V dn rn dd) (i + 1) from Int32.not_lt.mpr c_190)] at q9; exact q9)
        | (rw [gbB, gbM, frL, if_pos (show (frL (lsM V dn rn dd) i).2 < (lsM V dn rn dd) (i + 1) from Int32.not_le.mp c_190)] at q9; exact q9)
    refine k_iload eX12_group_193 rfl ?_
    refine k_istore (L2 := [_, _, _, _, _, _, _, _, _, _, _]) eX12_group_195 (Nat.le_of_ble_eq_true rfl) rfl ?_
    refine k_iload eX12_group_197 rfl ?_
    refine k_istore (L2 := [_, _, _, _, _, _, _, _, _, _, _]) eX12_group_199 (Nat.le_of_ble_eq_true rfl) rfl ?_
    refine k_iincN (g := 1) (a := j) (L2 := [_, _, _, _, _, _, _, _, _, _, _]) eX12_group_201 (Nat.le_of_ble_eq_true rfl) rfl rfl ?_
    refine k_goto 115 eX12_group_204 (by decide) ?_
    refine k_forget 8 (L2 := [_, _, _, _, _, _, _, _, _, _, _]) rfl ?_
    refine k_forget 9 (L2 := [_, _, _, _, _, _, _, _, _, _, _]) rfl ?_
    have q9 := ih (j + 1) (by omega)
    refine k_forget 8 (L2 := [_, _, _, _, _, _, _, _, _, _, _]) rfl ?_
    refine k_forget 9 (L2 := [_, _, _, _, _, _, _, _, _, _, _]) rfl ?_
    rw [gPl, hT] at q9
    cases j with
    | zero =>
      first
      | exact absurd (show (-1 : Int32) < 0 by decide) c_183
      | exact q9
    | succ i =>
      have hfl := frL_le (lsM V dn rn dd) i
      first
      | exact absurd c_183 (nI_pos (by omega))
      | (rw [gbB, gbM, frL, if_neg (show ¬ (frL (lsM V dn rn dd) i).2 < (lsM V dn rn dd) (i + 1) from Int32.not_lt.mpr c_190)] at q9; exact q9)
      | (rw [gbB, gbM, frL, if_pos (show (frL (lsM V dn rn dd) i).2 < (lsM V dn rn dd) (i + 1) from Int32.not_le.mp c_190)] at q9; exact q9)
set_option maxHeartbeats 400000 in
theorem pX12_group {S : k_S} {V : k_V} (hV : vM S = V) {dn : Nat} (hdn : S.1 2611 = nI dn) (hcd : CntOk V dn) {wk : Nat} (hwk : S.1 2600 = nI wk) (hwk1 : 1 ≤ wk) (hwk6 : wk ≤ 6) (hpl : PlanOk V) (h0 : RstOk V) {rn : Nat} (hrn : S.1 2604 = nI rn) (hrn5 : rn ≤ 5) (x w : Int32) : Sp 4 0 0 MX12_group [.ref 52, .int (x), .int (w)] (hp S) (Rt (some (.int (aMGrp V dn wk rn x w))) (hp S)) := by
  refine Sp_of (by decide +kernel) (Nat.le_of_ble_eq_true rfl) ?_
  show AW none MX12_group 4 0 0 0 [.ref 52, .int (x), .int (w), .null, .null, .null, .null, .null, .null, .null, .null] [] (hp S) _
  refine k_iload_n eX12_group_0 rfl ?_
  refine cS1 (M' := MX12_isDay) eX12_group_1 mX12_131 wX12_isDay sX12_isDay rfl (pX12_isDay (x)) (by decide) (Nat.le_of_ble_eq_true rfl) ?_
  refine k_ifb_eq 16 eX12_group_4 (by decide) (fun c_4 => ?_) (fun c_4 => ?_)
  · refine k_ldc eX12_group_16 kX12_182 rfl ?_
    refine k_ireturn eX12_group_18 rfl rfl ?_
    exact ⟨by rw [aMGrp, if_neg (fun q => by first | exact c_4 q.1 | exact c_13 q.2)], rfl⟩
  refine k_iload_n eX12_group_7 rfl ?_
  refine k_iconst (v := nI 0) eX12_group_8 (by decide) ?_
  refine k_iconst (v := nI 2) eX12_group_9 (by decide) ?_
  refine cS1 (M' := MX12_in) eX12_group_10 mX12_120 wX12_in sX12_in rfl (pX12_in (w) (nI 0) (nI 2)) (by decide) (Nat.le_of_ble_eq_true rfl) ?_
  refine k_ifb_ne 19 eX12_group_13 (by decide) (fun c_13 => ?_) (fun c_13 => ?_)
  · obtain ⟨dd, hdd2, rfl⟩ := pD_ex c_4
    obtain ⟨q, hq, rfl⟩ := k_rngle c_13.1 c_13.2 (by decide)
    refine k_aload_n eX12_group_19 rfl ?_
    refine GX12_124 eX12_group_20 rfl ?_
    refine k_topi (nI rn) hrn ?_
    refine k_if_neN 29 eX12_group_23 (by decide) (by omega) (fun c_23 => ?_) (fun c_23 => ?_)
    · refine k_iconst (v := nI 0) eX12_group_29 (by decide) ?_
      refine k_istore_n (L2 := [_, _, _, _, _, _, _, _, _, _, _]) eX12_group_30 (Nat.le_of_ble_eq_true rfl) rfl ?_
      refine k_iconst (v := nI 1) eX12_group_31 (by decide) ?_
      refine k_istore (L2 := [_, _, _, _, _, _, _, _, _, _, _]) eX12_group_32 (Nat.le_of_ble_eq_true rfl) rfl ?_
      have hr0 : 0 < rn := by omega
      refine k_loc (L2 := [_, _, _, .int (nI (gpL V dd 0).1), .int (nI (0 + 1)), _, _, _, _, _, _]) rfl ?_
      refine lX12_groupA (by decide) hV hpl hrn hrn5 hr0 hdd2 hq ?_ (rn - 1) 0 (by omega)
      have hgl := gpL_le V dd (rn - 1)
      refine k_iload_n eX12_group_76 rfl ?_
      refine k_iconst (v := nI 2) eX12_group_77 (by decide) ?_
      refine k_icmp_geN 98 eX12_group_78 (by decide) (by omega) (by omega) (fun c_78 => ?_) (fun c_78 => ?_)
      · refine k_aload_n eX12_group_98 rfl ?_
        refine GX12_38 eX12_group_99 rfl ?_
        refine k_iload_n eX12_group_102 rfl ?_
        refine k_ialdN (j := dd) eX12_group_103 (ar61 _) (by omega) (Nat.le_of_ble_eq_true rfl) ?_
        refine k_topi (nI (pw V dd)) (mpl hV hpl (by omega)) ?_
        refine k_istore (L2 := [_, _, _, _, _, _, _, _, _, _, _]) eX12_group_104 (Nat.le_of_ble_eq_true rfl) rfl ?_
        refine k_iconst (v := (-1)) eX12_group_106 (by decide) ?_
        refine k_istore (L2 := [_, _, _, _, _, _, _, _, _, _, _]) eX12_group_107 (Nat.le_of_ble_eq_true rfl) rfl ?_
        refine k_iconst (v := nI 0) eX12_group_109 (by decide) ?_
        refine k_istore (L2 := [_, _, _, _, _, _, _, _, _, _, _]) eX12_group_110 (Nat.le_of_ble_eq_true rfl) rfl ?_
        refine k_iconst (v := nI 0) eX12_group_112 (by decide) ?_
        refine k_istore (L2 := [_, _, _, _, _, _, _, _, _, _, _]) eX12_group_113 (Nat.le_of_ble_eq_true rfl) rfl ?_
        refine k_loc (L2 := [_, _, _, _, _, .int (gbB (lsM V dn rn dd) 0), .int (gbM (lsM V dn rn dd) 0), _, _, _, _]) rfl ?_
        refine k_heap (h2 := hp (sa S 61 (gPl V dd 0))) (by rw [gPl, ← show S.2.1 61 = V 6 from congrFun hV 6, sa_self]) ?_
        refine lX12_groupC (by decide) (S := S) hV hdn hcd hpl h0 hrn hrn5 hr0 hwk hwk1 hwk6 (dd := dd) (z := q) (y := (gpL V dd (rn - 1)).1) hdd2 _ ?_ wk 0 (by omega)
        refine k_aload_n eX12_group_207 rfl ?_
        refine GX12_38 eX12_group_208 rfl ?_
        refine k_iload_n eX12_group_211 rfl ?_
        refine k_iload eX12_group_212 rfl ?_
        refine k_iastN (j := dd) eX12_group_214 (ar61 _) (by omega) (Nat.le_of_ble_eq_true rfl) (as61 _ _) ?_
        refine k_iload eX12_group_215 rfl ?_
        refine k_ireturn eX12_group_217 rfl rfl ?_
        obtain ⟨i, rfl⟩ : ∃ i, wk = i + 1 := ⟨wk - 1, by omega⟩
        refine ⟨by rw [aMGrp, if_pos ⟨c_4, c_13⟩, if_neg (by omega), if_pos (by rw [show q = 2 by omega]), ix_nI (by omega)]; rfl, ?_⟩
        rw [sa_sa, sa_at, gPl, va_va]
        congr 1
        have e6 : S.2.1 61 = V 6 := congrFun hV 6
        have e7 : va_up (V 6) dd (nI (pw V dd)) = S.2.1 61 := by
          rw [e6]; funext k
          by_cases hk : k = dd
          · subst hk; rw [va_a1]; exact (hpl.at hdd2).symm
          · rw [va_ne _ _ hk]
        rw [e7, sa_self]
      refine k_iload_n eX12_group_81 rfl ?_
      refine k_if_neN 96 eX12_group_82 (by decide) (by omega) (fun c_82 => ?_) (fun c_82 => ?_)
      · refine k_iload_n eX12_group_96 rfl ?_
        refine k_ireturn eX12_group_97 rfl rfl ?_
        exact ⟨by rw [aMGrp, if_pos ⟨c_4, c_13⟩, if_neg (by omega), if_neg (fun z => by have z2 := congrArg Int32.toInt z; rw [nI_toInt (by omega), nI_toInt (by omega)] at z2; omega), if_neg (nI_ne0 (by omega) (by omega)), ix_nI (by omega)], rfl⟩
      refine k_aload_n eX12_group_85 rfl ?_
      refine k_iload_n eX12_group_86 rfl ?_
      refine k_iload_n eX12_group_87 rfl ?_
      refine k_iconst (v := nI 0) eX12_group_88 (by decide) ?_
      refine k_iconst (v := nI 0) eX12_group_89 (by decide) ?_
      refine cV1 (M' := MX12_sumOf) eX12_group_90 mX12_178 wX12_sumOf vX12_sumOf ⟨_, _, _, rfl, rfl, rfl⟩ rfl (pX12_sumOf (S := S) (V := V) (r := ((gpL V dd (rn - 1)).1)) (dd := dd) (q := 0) (g := 0) hV hpl (by omega) (by omega) (by omega) (by omega)) (by decide) (Nat.le_of_ble_eq_true rfl) ?_
      refine k_goto 97 eX12_group_93 (by decide) ?_
      refine k_ireturn eX12_group_97 rfl rfl ?_
      exact ⟨by rw [aMGrp, if_pos ⟨c_4, c_13⟩, if_neg (by omega), if_neg (fun z => by have z2 := congrArg Int32.toInt z; rw [nI_toInt (by omega), nI_toInt (by omega)] at z2; omega), if_pos (by rw [show q = 0 by omega]; rfl), ix_nI (by omega), smV_fit, gpL_fit], rfl⟩
    refine k_bipush (v := (-5)) eX12_group_26 (by decide) ?_
    refine k_ireturn eX12_group_28 rfl rfl ?_
    exact ⟨by rw [aMGrp, if_pos ⟨c_4, c_13⟩, if_pos (by omega)], rfl⟩
  refine k_ldc eX12_group_16 kX12_182 rfl ?_
  refine k_ireturn eX12_group_18 rfl rfl ?_
  exact ⟨by rw [aMGrp, if_neg (fun q => by first | exact c_4 q.1 | exact c_13 q.2)], rfl⟩
