def mWk (S : k_S) (wk : Nat) (x : Int32) : k_S := if ¬ x < 0 ∧ x ≤ nI 99999 then (if wk = 6 then S else si (sa (sa (sa S 53 (va_up (S.2.1 53) wk (x / nI 1000))) 54 (va_up (S.2.1 54) wk (rm (x / nI 10) (nI 100)))) 55 (va_up (S.2.1 55) wk (rm x (nI 10)))) 2600 (nI (wk + 1))) else S
set_option maxHeartbeats 400000 in
theorem pX12_work {S : k_S} {wk : Nat} (hwk : S.1 2600 = nI wk) (hwk1 : 1 ≤ wk) (hwk6 : wk ≤ 6) (x : Int32) : Sp 1 0 0 MX12_work [.ref 52, .int (x)] (hp S) (Rt (some (.int (aWork wk x))) (hp (mWk S wk x))) := by
  refine Sp_of (by decide +kernel) (Nat.le_of_ble_eq_true rfl) ?_
  show AW none MX12_work 1 0 0 0 [.ref 52, .int (x)] [] (hp S) _
  refine k_iload_n eX12_work_0 rfl ?_
  refine k_iconst (v := nI 0) eX12_work_1 (by decide) ?_
  refine k_ldc eX12_work_2 kX12_148 rfl ?_
  refine k_topi (nI 99999) (by decide) ?_
  refine cS1 (M' := MX12_in) eX12_work_4 mX12_120 wX12_in sX12_in rfl (pX12_in (x) (nI 0) (nI 99999)) (by decide) (Nat.le_of_ble_eq_true rfl) ?_
  refine k_ifb_eq 22 eX12_work_7 (by decide) (fun c_7 => ?_) (fun c_7 => ?_)
  · refine k_iconst (v := (-1)) eX12_work_22 (by decide) ?_
    refine k_ireturn eX12_work_23 rfl rfl ?_
    exact ⟨by rw [aWork, if_neg (fun q => c_7 ⟨Int32.not_lt.mp q.1, q.2⟩)], by rw [mWk, if_neg (fun q => c_7 ⟨Int32.not_lt.mp q.1, q.2⟩)]⟩
  have hC : ¬ x < 0 ∧ x ≤ nI 99999 := ⟨Int32.not_lt.mpr c_7.1, c_7.2⟩
  obtain ⟨z, hz, rfl⟩ := k_rngle c_7.1 c_7.2 (by decide)
  have e1 : nI z / nI 1000 = nI (z / 1000) := (dmN (by omega) (by decide) (by decide)).1
  have e2 : rm (nI z / nI 10) (nI 100) = nI (z / 10 % 100) := by rw [(dmN (show z < 2 ^ 31 by omega) (by decide) (by decide)).1]; exact (dmN (by omega) (by decide) (by decide)).2
  have e3 : rm (nI z) (nI 10) = nI (z % 10) := (dmN (by omega) (by decide) (by decide)).2
  refine k_iload_n eX12_work_10 rfl ?_
  refine k_bipush (v := nI 10) eX12_work_11 (by decide) ?_
  refine k_idivN eX12_work_13 (by omega) (by omega) (by omega) ?_
  refine k_bipush (v := nI 100) eX12_work_14 (by decide) ?_
  refine k_iremN eX12_work_16 (by omega) (by omega) (by omega) ?_
  refine k_bipush (v := nI 99) eX12_work_17 (by decide) ?_
  refine k_icmp_leN 24 eX12_work_19 (by decide) (by omega) (by omega) (fun c_19 => ?_) (fun c_19 => by exfalso; omega)
  refine k_aload_n eX12_work_24 rfl ?_
  refine GX12_7 eX12_work_25 rfl ?_
  refine k_topi (nI wk) hwk ?_
  refine k_bipush (v := nI 6) eX12_work_28 (by decide) ?_
  refine k_icmp_neN 36 eX12_work_30 (by decide) (by omega) (by omega) (fun c_30 => ?_) (fun c_30 => ?_)
  · refine k_aload_n eX12_work_36 rfl ?_
    refine GX12_13 eX12_work_37 rfl ?_
    refine k_aload_n eX12_work_40 rfl ?_
    refine GX12_7 eX12_work_41 rfl ?_
    refine k_topi (nI wk) hwk ?_
    refine k_iload_n eX12_work_44 rfl ?_
    refine k_sipush (v := nI 1000) eX12_work_45 (by decide) ?_
    refine k_idivN eX12_work_48 (by omega) (by omega) (by omega) ?_
    refine k_iastN (j := wk) eX12_work_49 (ar53 _) (by omega) (Nat.le_of_ble_eq_true rfl) (as53 _ _) ?_
    refine k_aload_n eX12_work_50 rfl ?_
    refine GX12_17 eX12_work_51 rfl ?_
    refine k_aload_n eX12_work_54 rfl ?_
    refine GX12_7 eX12_work_55 rfl ?_
    refine k_topi (nI wk) hwk ?_
    refine k_iload_n eX12_work_58 rfl ?_
    refine k_bipush (v := nI 10) eX12_work_59 (by decide) ?_
    refine k_idivN eX12_work_61 (by omega) (by omega) (by omega) ?_
    refine k_bipush (v := nI 100) eX12_work_62 (by decide) ?_
    refine k_iremN eX12_work_64 (by omega) (by omega) (by omega) ?_
    refine k_iastN (j := wk) eX12_work_65 (ar54 _) (by omega) (Nat.le_of_ble_eq_true rfl) (as54 _ _) ?_
    refine k_aload_n eX12_work_66 rfl ?_
    refine GX12_20 eX12_work_67 rfl ?_
    refine k_aload_n eX12_work_70 rfl ?_
    refine GX12_7 eX12_work_71 rfl ?_
    refine k_topi (nI wk) hwk ?_
    refine k_iload_n eX12_work_74 rfl ?_
    refine k_bipush (v := nI 10) eX12_work_75 (by decide) ?_
    refine k_iremN eX12_work_77 (by omega) (by omega) (by omega) ?_
    refine k_iastN (j := wk) eX12_work_78 (ar55 _) (by omega) (Nat.le_of_ble_eq_true rfl) (as55 _ _) ?_
    refine k_aload_n eX12_work_79 rfl ?_
    refine k_dup eX12_work_80 rfl ?_
    refine GX12_7 eX12_work_81 rfl ?_
    refine k_topi (nI wk) hwk ?_
    refine k_iconst (v := nI 1) eX12_work_84 (by decide) ?_
    refine k_iaddN eX12_work_85 ?_
    refine PX12_7 eX12_work_86 rfl ?_
    refine k_aload_n eX12_work_89 rfl ?_
    refine GX12_7 eX12_work_90 rfl ?_
    refine k_topi (nI (wk + 1)) rfl ?_
    refine k_iconst (v := nI 1) eX12_work_93 (by decide) ?_
    refine k_isubN eX12_work_94 (by omega) ?_
    refine k_ireturn eX12_work_95 rfl rfl ?_
    exact ⟨by rw [aWork, if_pos hC, fulV, if_neg c_30] <;> rfl, by rw [mWk, if_pos hC, if_neg c_30, e1, e2, e3] <;> rfl⟩
  refine k_bipush (v := (-3)) eX12_work_33 (by decide) ?_
  refine k_ireturn eX12_work_35 rfl rfl ?_
  exact ⟨by rw [aWork, if_pos hC, fulV, if_pos c_30], by rw [mWk, if_pos hC, if_pos c_30]⟩
theorem sa_cm (S : k_S) {a b : Nat} (h : a ≠ b) (f g : Nat → Int32) : sa (sa S a f) b g = sa (sa S b g) a f := by
  refine Prod.ext rfl (Prod.ext (funext fun k => ?_) rfl)
  by_cases h1 : k = a
  · by_cases h2 : k = b
    · exact absurd (h1.symm.trans h2) h
    · subst h1; simp [sa, va_up, h2]
  · by_cases h2 : k = b
    · subst h2; simp [sa, va_up, h1]
    · simp [sa, va_up, h1, h2]
def mRl (S : k_S) (rn : Nat) (f s : Int32) (j : Nat) : k_S := sa (sa S 59 (fillO f (rn * 120) (S.2.1 59) j)) 60 (fillO s (rn * 120) (S.2.1 60) j)
theorem mRl_s (S : k_S) (rn : Nat) (f s x y : Int32) (j : Nat) (hx : x = lft f j) (hy : y = lft s j) : sa (sa (mRl S rn f s j) 59 (va_up ((mRl S rn f s j).2.1 59) (120 * rn + j) x)) 60 (va_up ((sa (mRl S rn f s j) 59 (va_up ((mRl S rn f s j).2.1 59) (120 * rn + j) x)).2.1 60) (120 * rn + j) y) = mRl S rn f s (j + 1) := by
  subst hx hy
  rw [Nat.mul_comm 120 rn]
  refine Prod.ext rfl (Prod.ext (funext fun k => ?_) rfl)
  by_cases h : k = 60
  · subst h; rfl
  · by_cases h2 : k = 59
    · subst h2; rfl
    · simp [sa, mRl, va_up, h, h2]
theorem fillO_lt (g : Int32) (o : Nat) (f : Nat → Int32) : ∀ n j, o ≤ j → j < o + n → fillO g o f n j = lft g (j - o)
  | 0, j, h1, h2 => absurd h2 (by omega)
  | n + 1, j, h1, h2 => by
    rw [fillO, va_up]
    by_cases h : j = o + n
    · subst h; rw [if_pos rfl, Nat.add_sub_cancel_left]
    · rw [if_neg h]; exact fillO_lt g o f n j h1 (by omega)
def mRn (S : k_S) (rn : Nat) (x g : Int32) : k_S := if pRun x g then (if rn = 5 then S else si (mRl (sa (sa (sa S 56 (va_up (S.2.1 56) rn (x / nI 1000))) 57 (va_up (S.2.1 57) rn (rm x (nI 1000)))) 58 (va_up (S.2.1 58) rn g)) rn (x / nI 1000) (rm x (nI 1000)) 120) 2604 (nI (rn + 1))) else S
set_option maxHeartbeats 400000 in
theorem lX12_runner {d : Nat} {Po : Option Value → k_H → Prop} (hdd : 0 ≤ d) {S : k_S} {rn : Nat} (hrn : S.1 2604 = nI rn) (hrn5 : rn < 5) {f s : Int32} (hf : S.2.1 56 rn = f) (hs : S.2.1 57 rn = s) (x g : Int32) (kx : AW none MX12_runner d 0 0 211 [.ref 52, .int (x), .int (g), .int (nI 120), .null] [] (hp (mRl S rn f s 120)) Po) : ∀ (n j : Nat), j + n = 120 → AW none MX12_runner d 0 0 100 [.ref 52, .int (x), .int (g), .int (nI j), .null] [] (hp (mRl S rn f s j)) Po := by
  intro n
  induction n with
  | zero =>
    intro j hj
    rw [show j = 120 by omega]
    refine k_iload_n eX12_runner_100 rfl ?_
    refine k_bipush (v := nI 120) eX12_runner_101 (by decide) ?_
    refine k_icmp_geN 211 eX12_runner_103 (by decide) (by omega) (by omega) (fun c_103 => ?_) (fun c_103 => by exfalso; omega)
    exact kx
  | succ n ih =>
    intro j hj
    refine k_iload_n eX12_runner_100 rfl ?_
    refine k_bipush (v := nI 120) eX12_runner_101 (by decide) ?_
    refine k_icmp_geN 211 eX12_runner_103 (by decide) (by omega) (by omega) (fun c_103 => by exfalso; omega) (fun c_103 => ?_)
    refine k_bipush (v := nI 120) eX12_runner_106 (by decide) ?_
    refine k_aload_n eX12_runner_108 rfl ?_
    refine GX12_124 eX12_runner_109 rfl ?_
    refine k_topi (nI rn) hrn ?_
    refine k_imulN eX12_runner_112 ?_
    refine k_iload_n eX12_runner_113 rfl ?_
    refine k_iaddN eX12_runner_114 ?_
    refine k_istore (L2 := [_, _, _, _, _]) eX12_runner_115 (Nat.le_of_ble_eq_true rfl) rfl ?_
    refine k_aload_n eX12_runner_117 rfl ?_
    refine GX12_32 eX12_runner_118 rfl ?_
    refine k_iload eX12_runner_121 rfl ?_
    refine k_iload_n eX12_runner_123 rfl ?_
    refine k_if_neN 133 eX12_runner_124 (by decide) (by omega) (fun c_124 => ?_) (fun c_124 => ?_)
    · refine k_aload_n eX12_runner_133 rfl ?_
      refine GX12_32 eX12_runner_134 rfl ?_
      refine k_iload eX12_runner_137 rfl ?_
      refine k_iconst (v := nI 1) eX12_runner_139 (by decide) ?_
      refine k_isubN eX12_runner_140 (by omega) ?_
      refine k_ialdN (j := (((120 * rn) + j) - 1)) eX12_runner_141 (ar59 _) (by omega) (Nat.le_of_ble_eq_true rfl) ?_
      refine k_topi ((lft f (j - 1))) (by first | exact (fillO_lt _ _ _ _ _ (by omega) (by omega)).trans (by rw [show 120 * rn + j - 1 - rn * 120 = j - 1 by omega]) | (show (sa (mRl S rn f s j) 59 _).2.1 60 _ = _; exact (fillO_lt _ _ _ _ _ (by omega) (by omega)).trans (by rw [show 120 * rn + j - 1 - rn * 120 = j - 1 by omega]))) ?_
      refine k_sipush (v := nI 1000) eX12_runner_142 (by decide) ?_
      refine k_aload_n eX12_runner_145 rfl ?_
      refine GX12_23 eX12_runner_146 rfl ?_
      refine k_aload_n eX12_runner_149 rfl ?_
      refine GX12_124 eX12_runner_150 rfl ?_
      refine k_topi (nI rn) hrn ?_
      refine k_ialdN (j := rn) eX12_runner_153 (ar56 _) (by omega) (Nat.le_of_ble_eq_true rfl) ?_
      refine k_topi (f) hf ?_
      refine k_isub eX12_runner_154 ?_
      refine k_imul eX12_runner_155 ?_
      refine k_sipush (v := nI 1000) eX12_runner_156 (by decide) ?_
      refine k_idiv eX12_runner_159 (by decide) ?_
      refine k_iastN (j := ((120 * rn) + j)) eX12_runner_160 (ar59 _) (by omega) (Nat.le_of_ble_eq_true rfl) (as59 _ _) ?_
      refine k_aload_n eX12_runner_161 rfl ?_
      refine GX12_35 eX12_runner_162 rfl ?_
      refine k_iload eX12_runner_165 rfl ?_
      refine k_iload_n eX12_runner_167 rfl ?_
      refine k_if_neN 177 eX12_runner_168 (by decide) (by omega) (fun c_168 => ?_) (fun c_168 => ?_)
      · refine k_aload_n eX12_runner_177 rfl ?_
        refine GX12_35 eX12_runner_178 rfl ?_
        refine k_iload eX12_runner_181 rfl ?_
        refine k_iconst (v := nI 1) eX12_runner_183 (by decide) ?_
        refine k_isubN eX12_runner_184 (by omega) ?_
        refine k_ialdN (j := (((120 * rn) + j) - 1)) eX12_runner_185 (ar60 _) (by omega) (Nat.le_of_ble_eq_true rfl) ?_
        refine k_topi ((lft s (j - 1))) (by first | exact (fillO_lt _ _ _ _ _ (by omega) (by omega)).trans (by rw [show 120 * rn + j - 1 - rn * 120 = j - 1 by omega]) | (show (sa (mRl S rn f s j) 59 _).2.1 60 _ = _; exact (fillO_lt _ _ _ _ _ (by omega) (by omega)).trans (by rw [show 120 * rn + j - 1 - rn * 120 = j - 1 by omega]))) ?_
        refine k_sipush (v := nI 1000) eX12_runner_186 (by decide) ?_
        refine k_aload_n eX12_runner_189 rfl ?_
        refine GX12_26 eX12_runner_190 rfl ?_
        refine k_aload_n eX12_runner_193 rfl ?_
        refine GX12_124 eX12_runner_194 rfl ?_
        refine k_topi (nI rn) hrn ?_
        refine k_ialdN (j := rn) eX12_runner_197 (ar57 _) (by omega) (Nat.le_of_ble_eq_true rfl) ?_
        refine k_topi (s) hs ?_
        refine k_isub eX12_runner_198 ?_
        refine k_imul eX12_runner_199 ?_
        refine k_sipush (v := nI 1000) eX12_runner_200 (by decide) ?_
        refine k_idiv eX12_runner_203 (by decide) ?_
        refine k_iastN (j := ((120 * rn) + j)) eX12_runner_204 (ar60 _) (by omega) (Nat.le_of_ble_eq_true rfl) (as60 _ _) ?_
        refine k_iincN (g := 1) (a := j) (L2 := [_, _, _, _, _]) eX12_runner_205 (Nat.le_of_ble_eq_true rfl) rfl rfl ?_
        refine k_goto 100 eX12_runner_208 (by decide) ?_
        refine k_forget 4 (L2 := [_, _, _, _, _]) rfl ?_
        first
        | (exfalso; omega)
        | (rw [mRl_s S rn f s _ _ j (by rw [show j = 0 by omega]; rfl) (by rw [show j = 0 by omega]; rfl)]; refine k_forget 4 (L2 := [_, _, _, _, _]) rfl ?_; exact ih (j + 1) (by omega))
        | (obtain ⟨i, rfl⟩ : ∃ i, j = i + 1 := ⟨j - 1, by omega⟩; rw [mRl_s S rn f s _ _ (i + 1) (by rfl) (by rfl)]; refine k_forget 4 (L2 := [_, _, _, _, _]) rfl ?_; exact ih (i + 1 + 1) (by omega))
      refine k_sipush (v := nI 1000) eX12_runner_171 (by decide) ?_
      refine k_goto 204 eX12_runner_174 (by decide) ?_
      refine k_iastN (j := ((120 * rn) + j)) eX12_runner_204 (ar60 _) (by omega) (Nat.le_of_ble_eq_true rfl) (as60 _ _) ?_
      refine k_iincN (g := 1) (a := j) (L2 := [_, _, _, _, _]) eX12_runner_205 (Nat.le_of_ble_eq_true rfl) rfl rfl ?_
      refine k_goto 100 eX12_runner_208 (by decide) ?_
      refine k_forget 4 (L2 := [_, _, _, _, _]) rfl ?_
      first
      | (exfalso; omega)
      | (rw [mRl_s S rn f s _ _ j (by rw [show j = 0 by omega]; rfl) (by rw [show j = 0 by omega]; rfl)]; refine k_forget 4 (L2 := [_, _, _, _, _]) rfl ?_; exact ih (j + 1) (by omega))
      | (obtain ⟨i, rfl⟩ : ∃ i, j = i + 1 := ⟨j - 1, by omega⟩; rw [mRl_s S rn f s _ _ (i + 1) (by rfl) (by rfl)]; refine k_forget 4 (L2 := [_, _, _, _, _]) rfl ?_; exact ih (i + 1 + 1) (by omega))
    refine k_sipush (v := nI 1000) eX12_runner_127 (by decide) ?_
    refine k_goto 160 eX12_runner_130 (by decide) ?_
    refine k_iastN (j := ((120 * rn) + j)) eX12_runner_160 (ar59 _) (by omega) (Nat.le_of_ble_eq_true rfl) (as59 _ _) ?_
    refine k_aload_n eX12_runner_161 rfl ?_
    refine GX12_35 eX12_runner_162 rfl ?_
    refine k_iload eX12_runner_165 rfl ?_
    refine k_iload_n eX12_runner_167 rfl ?_
    refine k_if_neN 177 eX12_runner_168 (by decide) (by omega) (fun c_168 => ?_) (fun c_168 => ?_)
    · refine k_aload_n eX12_runner_177 rfl ?_
      refine GX12_35 eX12_runner_178 rfl ?_
      refine k_iload eX12_runner_181 rfl ?_
      refine k_iconst (v := nI 1) eX12_runner_183 (by decide) ?_
      refine k_isubN eX12_runner_184 (by omega) ?_
      refine k_ialdN (j := (((120 * rn) + j) - 1)) eX12_runner_185 (ar60 _) (by omega) (Nat.le_of_ble_eq_true rfl) ?_
      refine k_topi ((lft s (j - 1))) (by first | exact (fillO_lt _ _ _ _ _ (by omega) (by omega)).trans (by rw [show 120 * rn + j - 1 - rn * 120 = j - 1 by omega]) | (show (sa (mRl S rn f s j) 59 _).2.1 60 _ = _; exact (fillO_lt _ _ _ _ _ (by omega) (by omega)).trans (by rw [show 120 * rn + j - 1 - rn * 120 = j - 1 by omega]))) ?_
      refine k_sipush (v := nI 1000) eX12_runner_186 (by decide) ?_
      refine k_aload_n eX12_runner_189 rfl ?_
      refine GX12_26 eX12_runner_190 rfl ?_
      refine k_aload_n eX12_runner_193 rfl ?_
      refine GX12_124 eX12_runner_194 rfl ?_
      refine k_topi (nI rn) hrn ?_
      refine k_ialdN (j := rn) eX12_runner_197 (ar57 _) (by omega) (Nat.le_of_ble_eq_true rfl) ?_
      refine k_topi (s) hs ?_
      refine k_isub eX12_runner_198 ?_
      refine k_imul eX12_runner_199 ?_
      refine k_sipush (v := nI 1000) eX12_runner_200 (by decide) ?_
      refine k_idiv eX12_runner_203 (by decide) ?_
      refine k_iastN (j := ((120 * rn) + j)) eX12_runner_204 (ar60 _) (by omega) (Nat.le_of_ble_eq_true rfl) (as60 _ _) ?_
      refine k_iincN (g := 1) (a := j) (L2 := [_, _, _, _, _]) eX12_runner_205 (Nat.le_of_ble_eq_true rfl) rfl rfl ?_
      refine k_goto 100 eX12_runner_208 (by decide) ?_
      refine k_forget 4 (L2 := [_, _, _, _, _]) rfl ?_
      first
      | (exfalso; omega)
      | (rw [mRl_s S rn f s _ _ j (by rw [show j = 0 by omega]; rfl) (by rw [show j = 0 by omega]; rfl)]; refine k_forget 4 (L2 := [_, _, _, _, _]) rfl ?_; exact ih (j + 1) (by omega))
      | (obtain ⟨i, rfl⟩ : ∃ i, j = i + 1 := ⟨j - 1, by omega⟩; rw [mRl_s S rn f s _ _ (i + 1) (by rfl) (by rfl)]; refine k_forget 4 (L2 := [_, _, _, _, _]) rfl ?_; exact ih (i + 1 + 1) (by omega))
    refine k_sipush (v := nI 1000) eX12_runner_171 (by decide) ?_
    refine k_goto 204 eX12_runner_174 (by decide) ?_
    refine k_iastN (j := ((120 * rn) + j)) eX12_runner_204 (ar60 _) (by omega) (Nat.le_of_ble_eq_true rfl) (as60 _ _) ?_
    refine k_iincN (g := 1) (a := j) (L2 := [_, _, _, _, _]) eX12_runner_205 (Nat.le_of_ble_eq_true rfl) rfl rfl ?_
    refine k_goto 100 eX12_runner_208 (by decide) ?_
    refine k_forget 4 (L2 := [_, _, _, _, _]) rfl ?_
    first
    | (exfalso; omega)
    | (rw [mRl_s S rn f s _ _ j (by rw [show j = 0 by omega]; rfl) (by rw [show j = 0 by omega]; rfl)]; refine k_forget 4 (L2 := [_, _, _, _, _]) rfl ?_; exact ih (j + 1) (by omega))
    | (obtain ⟨i, rfl⟩ : ∃ i, j = i + 1 := ⟨j - 1, by omega⟩; rw [mRl_s S rn f s _ _ (i + 1) (by rfl) (by rfl)]; refine k_forget 4 (L2 := [_, _, _, _, _]) rfl ?_; exact ih (i + 1 + 1) (by omega))
set_option maxHeartbeats 400000 in
theorem pX12_runner {S : k_S} {rn : Nat} (hrn : S.1 2604 = nI rn) (hrn5 : rn ≤ 5) (x g : Int32) : Sp 1 0 0 MX12_runner [.ref 52, .int (x), .int (g)] (hp S) (Rt (some (.int (aRun rn x g))) (hp (mRn S rn x g))) := by
  refine Sp_of (by decide +kernel) (Nat.le_of_ble_eq_true rfl) ?_
  show AW none MX12_runner 1 0 0 0 [.ref 52, .int (x), .int (g), .null, .null] [] (hp S) _
  refine k_iload_n eX12_runner_0 rfl ?_
  refine k_if_lt 47 eX12_runner_1 (by decide) (fun c_1 => ?_) (fun c_1 => ?_)
  · refine k_iconst (v := (-1)) eX12_runner_47 (by decide) ?_
    refine k_ireturn eX12_runner_48 rfl rfl ?_
    exact ⟨by rw [aRun, if_neg (fun q => by first | exact q.1.1 c_1 | exact c_16 q.1.2.1 | exact c_31 q.1.2.2 | exact c_44 q.2)], by rw [mRn, if_neg (fun q => by first | exact q.1.1 c_1 | exact c_16 q.1.2.1 | exact c_31 q.1.2.2 | exact c_44 q.2)]⟩
  refine k_iload_n eX12_runner_4 rfl ?_
  refine k_sipush (v := nI 1000) eX12_runner_5 (by decide) ?_
  refine k_idiv eX12_runner_8 (by decide) ?_
  refine k_iconst (v := nI 1) eX12_runner_9 (by decide) ?_
  refine k_sipush (v := nI 999) eX12_runner_10 (by decide) ?_
  refine cS1 (M' := MX12_in) eX12_runner_13 mX12_120 wX12_in sX12_in rfl (pX12_in ((x / nI 1000)) (nI 1) (nI 999)) (by decide) (Nat.le_of_ble_eq_true rfl) ?_
  refine k_ifb_eq 47 eX12_runner_16 (by decide) (fun c_16 => ?_) (fun c_16 => ?_)
  · refine k_iconst (v := (-1)) eX12_runner_47 (by decide) ?_
    refine k_ireturn eX12_runner_48 rfl rfl ?_
    exact ⟨by rw [aRun, if_neg (fun q => by first | exact q.1.1 c_1 | exact c_16 q.1.2.1 | exact c_31 q.1.2.2 | exact c_44 q.2)], by rw [mRn, if_neg (fun q => by first | exact q.1.1 c_1 | exact c_16 q.1.2.1 | exact c_31 q.1.2.2 | exact c_44 q.2)]⟩
  refine k_iload_n eX12_runner_19 rfl ?_
  refine k_sipush (v := nI 1000) eX12_runner_20 (by decide) ?_
  refine k_irem eX12_runner_23 (by decide) ?_
  refine k_iconst (v := nI 1) eX12_runner_24 (by decide) ?_
  refine k_sipush (v := nI 999) eX12_runner_25 (by decide) ?_
  refine cS1 (M' := MX12_in) eX12_runner_28 mX12_120 wX12_in sX12_in rfl (pX12_in ((x - x / nI 1000 * nI 1000)) (nI 1) (nI 999)) (by decide) (Nat.le_of_ble_eq_true rfl) ?_
  refine k_ifb_eq 47 eX12_runner_31 (by decide) (fun c_31 => ?_) (fun c_31 => ?_)
  · refine k_iconst (v := (-1)) eX12_runner_47 (by decide) ?_
    refine k_ireturn eX12_runner_48 rfl rfl ?_
    exact ⟨by rw [aRun, if_neg (fun q => by first | exact q.1.1 c_1 | exact c_16 q.1.2.1 | exact c_31 q.1.2.2 | exact c_44 q.2)], by rw [mRn, if_neg (fun q => by first | exact q.1.1 c_1 | exact c_16 q.1.2.1 | exact c_31 q.1.2.2 | exact c_44 q.2)]⟩
  refine k_iload_n eX12_runner_34 rfl ?_
  refine k_sipush (v := nI 500) eX12_runner_35 (by decide) ?_
  refine k_sipush (v := nI 1500) eX12_runner_38 (by decide) ?_
  refine cS1 (M' := MX12_in) eX12_runner_41 mX12_120 wX12_in sX12_in rfl (pX12_in (g) (nI 500) (nI 1500)) (by decide) (Nat.le_of_ble_eq_true rfl) ?_
  refine k_ifb_ne 49 eX12_runner_44 (by decide) (fun c_44 => ?_) (fun c_44 => ?_)
  · refine k_aload_n eX12_runner_49 rfl ?_
    refine GX12_124 eX12_runner_50 rfl ?_
    refine k_topi (nI rn) hrn ?_
    refine k_iconst (v := nI 5) eX12_runner_53 (by decide) ?_
    refine k_icmp_neN 60 eX12_runner_54 (by decide) (by omega) (by omega) (fun c_54 => ?_) (fun c_54 => ?_)
    · have hC : pRun x g := ⟨⟨c_1, c_16, c_31⟩, c_44⟩
      refine k_aload_n eX12_runner_60 rfl ?_
      refine GX12_23 eX12_runner_61 rfl ?_
      refine k_aload_n eX12_runner_64 rfl ?_
      refine GX12_124 eX12_runner_65 rfl ?_
      refine k_topi (nI rn) hrn ?_
      refine k_iload_n eX12_runner_68 rfl ?_
      refine k_sipush (v := nI 1000) eX12_runner_69 (by decide) ?_
      refine k_idiv eX12_runner_72 (by decide) ?_
      refine k_iastN (j := rn) eX12_runner_73 (ar56 _) (by omega) (Nat.le_of_ble_eq_true rfl) (as56 _ _) ?_
      refine k_aload_n eX12_runner_74 rfl ?_
      refine GX12_26 eX12_runner_75 rfl ?_
      refine k_aload_n eX12_runner_78 rfl ?_
      refine GX12_124 eX12_runner_79 rfl ?_
      refine k_topi (nI rn) hrn ?_
      refine k_iload_n eX12_runner_82 rfl ?_
      refine k_sipush (v := nI 1000) eX12_runner_83 (by decide) ?_
      refine k_irem eX12_runner_86 (by decide) ?_
      refine k_iastN (j := rn) eX12_runner_87 (ar57 _) (by omega) (Nat.le_of_ble_eq_true rfl) (as57 _ _) ?_
      refine k_aload_n eX12_runner_88 rfl ?_
      refine GX12_29 eX12_runner_89 rfl ?_
      refine k_aload_n eX12_runner_92 rfl ?_
      refine GX12_124 eX12_runner_93 rfl ?_
      refine k_topi (nI rn) hrn ?_
      refine k_iload_n eX12_runner_96 rfl ?_
      refine k_iastN (j := rn) eX12_runner_97 (ar58 _) (by omega) (Nat.le_of_ble_eq_true rfl) (as58 _ _) ?_
      refine k_iconst (v := nI 0) eX12_runner_98 (by decide) ?_
      refine k_istore_n (L2 := [_, _, _, _, _]) eX12_runner_99 (Nat.le_of_ble_eq_true rfl) rfl ?_
      have hr4 : rn < 5 := by omega
      refine k_heap (h2 := hp (mRl (sa (sa (sa S 56 (va_up (S.2.1 56) rn (x / nI 1000))) 57 (va_up (S.2.1 57) rn (rm x (nI 1000)))) 58 (va_up (S.2.1 58) rn g)) rn (x / nI 1000) (rm x (nI 1000)) 0)) (by rw [mRl, fillO, fillO, sa_self]; exact congrArg hp (sa_self _ _).symm) ?_
      refine lX12_runner (by decide) (S := (sa (sa (sa S 56 (va_up (S.2.1 56) rn (x / nI 1000))) 57 (va_up (S.2.1 57) rn (rm x (nI 1000)))) 58 (va_up (S.2.1 58) rn g))) (rn := rn) hrn hr4 (f := x / nI 1000) (s := rm x (nI 1000)) (va_a1 _ _ _) (va_a1 _ _ _) x g ?_ 120 0 (by omega)
      refine k_aload_n eX12_runner_211 rfl ?_
      refine k_dup eX12_runner_212 rfl ?_
      refine GX12_124 eX12_runner_213 rfl ?_
      refine k_topi (nI rn) hrn ?_
      refine k_iconst (v := nI 1) eX12_runner_216 (by decide) ?_
      refine k_iaddN eX12_runner_217 ?_
      refine PX12_124 eX12_runner_218 rfl ?_
      refine k_aload_n eX12_runner_221 rfl ?_
      refine GX12_124 eX12_runner_222 rfl ?_
      refine k_topi (nI (rn + 1)) rfl ?_
      refine k_iconst (v := nI 1) eX12_runner_225 (by decide) ?_
      refine k_isubN eX12_runner_226 (by omega) ?_
      refine k_ireturn eX12_runner_227 rfl rfl ?_
      exact ⟨by rw [aRun, if_pos hC, fulV, if_neg c_54] <;> rfl, by rw [mRn, if_pos hC, if_neg c_54] <;> rfl⟩
    refine k_bipush (v := (-3)) eX12_runner_57 (by decide) ?_
    refine k_ireturn eX12_runner_59 rfl rfl ?_
    exact ⟨by rw [aRun, if_pos ⟨⟨c_1, c_16, c_31⟩, c_44⟩, fulV, if_pos c_54], by rw [mRn, if_pos ⟨⟨c_1, c_16, c_31⟩, c_44⟩, if_pos c_54]⟩
  refine k_iconst (v := (-1)) eX12_runner_47 (by decide) ?_
  refine k_ireturn eX12_runner_48 rfl rfl ?_
  exact ⟨by rw [aRun, if_neg (fun q => by first | exact q.1.1 c_1 | exact c_16 q.1.2.1 | exact c_31 q.1.2.2 | exact c_44 q.2)], by rw [mRn, if_neg (fun q => by first | exact q.1.1 c_1 | exact c_16 q.1.2.1 | exact c_31 q.1.2.2 | exact c_44 q.2)]⟩
