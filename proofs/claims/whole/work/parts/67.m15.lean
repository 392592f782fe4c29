theorem jN_ne0 {n : Nat} (h0 : 0 < n) (h : n < 2 ^ 31) : ¬ (nI n).toInt64 = 0 := fun q => by
  have q2 : (jN n).toInt = 0 := by rw [show jN n = 0 from q]; rfl
  rw [jN_toInt h] at q2; omega
/-- a year as the reference lives it: the number, hurt so often, the plan, the day -/
abbrev yT : Type := Int32 × Int32 × (Nat → Int32) × Nat
def mYs (rk : Nat → Int32) (lo : Nat) (s : yT) : yT := if rndv (rndz s.1) < rk s.2.2.2 then (rndz s.1, s.2.1 + 1, rsP s.2.2.1 (s.2.2.2 + 1) (min lo (120 - (s.2.2.2 + 1))), s.2.2.2 + lo + 1) else (rndz s.1, s.2.1, s.2.2.1, s.2.2.2 + 1)
def mYi (rk : Nat → Int32) (lo : Nat) : Nat → yT → yT
  | 0, s => s
  | k + 1, s => if s.2.2.2 < 120 then mYi rk lo k (mYs rk lo s) else s
theorem mYs_ok {V : k_V} {rk : Nat → Int32} {lo : Nat} {s : yT} (h : PlanOk (vP V s.2.2.1)) : PlanOk (vP V (mYs rk lo s).2.2.1) := by
  unfold mYs
  split
  · exact rsP_ok h _ _
  · exact h
theorem mYi_ok {V : k_V} {rk : Nat → Int32} {lo : Nat} : ∀ (k : Nat) (s : yT), PlanOk (vP V s.2.2.1) → PlanOk (vP V (mYi rk lo k s).2.2.1)
  | 0, s, h => h
  | k + 1, s, h => by
    rw [mYi]
    split
    · exact mYi_ok k _ (mYs_ok h)
    · exact h
theorem mYs_hi {f : Nat → Int32} {rk : Nat → Int32} {lo : Nat} {s : yT} (hd : s.2.2.2 < 120) (h : ∀ i, 120 ≤ i → s.2.2.1 i = f i) : ∀ i, 120 ≤ i → (mYs rk lo s).2.2.1 i = f i := by
  intro i hi
  unfold mYs
  split
  · exact (rsP_hi (by omega) i hi).trans (h i hi)
  · exact h i hi
theorem mYi_hi {f : Nat → Int32} {rk : Nat → Int32} {lo : Nat} : ∀ (k : Nat) (s : yT), (∀ i, 120 ≤ i → s.2.2.1 i = f i) → ∀ i, 120 ≤ i → (mYi rk lo k s).2.2.1 i = f i
  | 0, s, h => h
  | k + 1, s, h => by
    rw [mYi]
    split
    · exact mYi_hi k _ (mYs_hi (by assumption) h)
    · exact h
def y120 (rk : Nat → Int32) (lo : Nat) (s : yT) : yT := mYi rk lo 120 s
/-- a year behind others: the number, hurt so often, how fit together -/
def mYr (V : k_V) (dn r : Nat) (rk : Nat → Int32) (lo : Nat) (a : Int32 × Int32 × Int64) : Int32 × Int32 × Int64 :=
  ((y120 rk lo (a.1, a.2.1, V 6, 0)).1, (y120 rk lo (a.1, a.2.1, V 6, 0)).2.1, a.2.2 + (if lsN V dn = 0 then 0 else (fitv (vP V (y120 rk lo (a.1, a.2.1, V 6, 0)).2.2.1) r (lsN V dn - 1)).toInt64))
def mYrs (V : k_V) (dn r : Nat) (T : List Int32) (lo : Nat) (seed : Int32) (n : Nat) : Int32 × Int32 × Int64 := itN (mYr V dn r (fun i => nI (rsk V dn r T i)) lo) (seed, nI 0, 0) n
def aMYrs (V : k_V) (dn : Nat) (T : List Int32) (lo : Nat) (kr r seed nw : Int32) : Int32 := if pYrs kr r nw then (if rm nw (nI 10) = nI 1 then (if lsN V dn = 0 then -2 else ((mYrs V dn (ix r) T lo seed (ix (nw / nI 10))).2.2 / (nI (ix (nw / nI 10))).toInt64).toInt32) else (mYrs V dn (ix r) T lo seed (ix (nw / nI 10))).2.1) else -2000000000
theorem mYrs_s (V : k_V) (dn r : Nat) (T : List Int32) (lo : Nat) (seed : Int32) (n : Nat) : mYrs V dn r T lo seed (n + 1) = mYr V dn r (fun i => nI (rsk V dn r T i)) lo (mYrs V dn r T lo seed n) := by
  unfold mYrs
  rw [itN_s]
set_option maxHeartbeats 400000 in
theorem lX12_years {d0 : Nat} {Po : Option Value → k_H → Prop} (hdd : 1 ≤ d0) {K : k_S} {V : k_V} {dn r lo t nw : Nat} {T : List Int32} {seed : Int32} {last : Int32} {sm : Int64} (hlo : K.1 2618 = nI lo) (hlo60 : lo ≤ 60) (h83 : ∀ i, i < 120 → K.2.1 83 i = nI (rsk V dn r T i)) (ht : t ≤ 50) (hnw : nw < 2 ^ 31) : ∀ (k : Nat) (s : yT), 120 ≤ s.2.2.2 + k → s.2.2.2 ≤ 180 → AW none MX12_years d0 0 0 161 [.ref 52, .int (nI r), .int (seed), .int (nI nw), .int (last), .int ((mYi (fun i => nI (rsk V dn r T i)) lo k s).1), .int ((mYi (fun i => nI (rsk V dn r T i)) lo k s).2.1), .long (sm), .null, .int (nI t), .int (nI ((mYi (fun i => nI (rsk V dn r T i)) lo k s).2.2.2))] [] (hp (sa K 61 (mYi (fun i => nI (rsk V dn r T i)) lo k s).2.2.1)) Po → AW none MX12_years d0 0 0 93 [.ref 52, .int (nI r), .int (seed), .int (nI nw), .int (last), .int ((s).1), .int ((s).2.1), .long (sm), .null, .int (nI t), .int (nI ((s).2.2.2))] [] (hp (sa K 61 (s).2.2.1)) Po := by
  intro k
  induction k with
  | zero =>
    intro s hk h180 kx
    refine k_iload eX12_years_93 rfl ?_
    refine k_bipush (v := nI 120) eX12_years_95 (by decide) ?_
    refine k_icmp_geN 161 eX12_years_97 (by decide) (by omega) (by omega) (fun c_97 => ?_) (fun c_97 => by exfalso; omega)
    exact kx
  | succ k ih =>
    intro s hk h180 kx
    refine k_iload eX12_years_93 rfl ?_
    refine k_bipush (v := nI 120) eX12_years_95 (by decide) ?_
    refine k_icmp_geN 161 eX12_years_97 (by decide) (by omega) (by omega) (fun c_97 => ?_) (fun c_97 => ?_)
    · rw [mYi, if_neg (by omega)] at kx
      exact kx
    refine k_iload eX12_years_100 rfl ?_
    refine k_ldcw eX12_years_102 kX12_301 rfl ?_
    refine k_topi (nI 1103515245) (by decide) ?_
    refine k_imul eX12_years_105 ?_
    refine k_sipush (v := nI 12345) eX12_years_106 (by decide) ?_
    refine k_iadd eX12_years_109 ?_
    refine k_topi ((rndz s.1)) rfl ?_
    obtain ⟨Z, hZ⟩ : ∃ Z, rndz s.1 = Z := ⟨_, rfl⟩
    rw [hZ]
    refine k_istore (L2 := [_, _, _, _, _, _, _, _, _, _, _]) eX12_years_110 (Nat.le_of_ble_eq_true rfl) rfl ?_
    refine k_iload eX12_years_112 rfl ?_
    refine k_bipush (v := nI 8) eX12_years_114 (by decide) ?_
    refine k_iushr eX12_years_116 ?_
    refine k_sipush (v := nI 1000) eX12_years_117 (by decide) ?_
    refine k_irem eX12_years_120 (by decide) ?_
    refine k_topi ((rndv Z)) rfl ?_
    refine k_aload_n eX12_years_121 rfl ?_
    refine GX12_108 eX12_years_122 rfl ?_
    refine k_iload eX12_years_125 rfl ?_
    refine k_ialdN (j := ((s).2.2.2)) eX12_years_127 (ar83 _) (by omega) (Nat.le_of_ble_eq_true rfl) ?_
    refine k_topi ((nI (rsk V dn r T s.2.2.2))) (h83 _ (by omega)) ?_
    refine k_icmp_ge 155 eX12_years_128 (by decide) (fun c_128 => ?_) (fun c_128 => ?_)
    · refine k_iincN (g := 1) (a := ((s).2.2.2)) (L2 := [_, _, _, _, _, _, _, _, _, _, _]) eX12_years_155 (Nat.le_of_ble_eq_true rfl) rfl rfl ?_
      refine k_goto 93 eX12_years_158 (by decide) ?_
      have es : mYs (fun i => nI (rsk V dn r T i)) lo s = (Z, s.2.1, s.2.2.1, s.2.2.2 + 1) := by rw [mYs, hZ]; exact if_neg (Int32.not_lt.mpr c_128)
      rw [mYi, if_pos (by omega), es] at kx
      exact ih (Z, s.2.1, s.2.2.1, s.2.2.2 + 1) (by show 120 ≤ s.2.2.2 + 1 + k; omega) (by show s.2.2.2 + 1 ≤ 180; omega) kx
    refine k_iinc (v := (s).2.1 + 1) (L2 := [_, _, _, _, _, _, _, _, _, _, _]) eX12_years_131 (Nat.le_of_ble_eq_true rfl) rfl rfl rfl ?_
    refine k_aload_n eX12_years_134 rfl ?_
    refine k_iload eX12_years_135 rfl ?_
    refine k_iconst (v := nI 1) eX12_years_137 (by decide) ?_
    refine k_iaddN eX12_years_138 ?_
    refine k_aload_n eX12_years_139 rfl ?_
    refine GX12_56 eX12_years_140 rfl ?_
    refine k_topi (nI lo) hlo ?_
    refine cV0 (M' := MX12_rests) eX12_years_143 mX12_288 wX12_rests vX12_rests ⟨_, _, _, rfl, rfl, rfl⟩ rfl (pX12_rests (S := (sa K 61 (s).2.2.1)) (a := s.2.2.2 + 1) (b := lo) (by omega) (by omega)) (by omega) (Nat.le_of_ble_eq_true rfl) ?_
    refine k_heap (h2 := hp (sa K 61 (rsP s.2.2.1 (s.2.2.2 + 1) (min lo (120 - (s.2.2.2 + 1)))))) (by rw [sa_sa, sa_at]) ?_
    refine k_iload eX12_years_146 rfl ?_
    refine k_aload_n eX12_years_148 rfl ?_
    refine GX12_56 eX12_years_149 rfl ?_
    refine k_topi (nI lo) hlo ?_
    refine k_iaddN eX12_years_152 ?_
    refine k_istore (L2 := [_, _, _, _, _, _, _, _, _, _, _]) eX12_years_153 (Nat.le_of_ble_eq_true rfl) rfl ?_
    refine k_iincN (g := 1) (a := (((s).2.2.2) + lo)) (L2 := [_, _, _, _, _, _, _, _, _, _, _]) eX12_years_155 (Nat.le_of_ble_eq_true rfl) rfl rfl ?_
    refine k_goto 93 eX12_years_158 (by decide) ?_
    have es : mYs (fun i => nI (rsk V dn r T i)) lo s = (Z, s.2.1 + 1, rsP s.2.2.1 (s.2.2.2 + 1) (min lo (120 - (s.2.2.2 + 1))), s.2.2.2 + lo + 1) := by rw [mYs, hZ]; exact if_pos (Int32.not_le.mp c_128)
    rw [mYi, if_pos (by omega), es] at kx
    exact ih (Z, s.2.1 + 1, rsP s.2.2.1 (s.2.2.2 + 1) (min lo (120 - (s.2.2.2 + 1))), s.2.2.2 + lo + 1) (by show 120 ≤ s.2.2.2 + lo + 1 + k; omega) (by show s.2.2.2 + lo + 1 ≤ 180; omega) kx
set_option maxHeartbeats 400000 in
theorem mX12_years {d : Nat} {Po : Option Value → k_H → Prop} (hdd : 3 ≤ d) {K : k_S} {V : k_V} (hV : vM K = V) {dn : Nat} (hdn : K.1 2611 = nI dn) (hcd : CntOk V dn) (hpl : PlanOk V) {r lo nw : Nat} {T : List Int32} (hr : r < 5) (seed : Int32) (hlo : K.1 2618 = nI lo) (hlo60 : lo ≤ 60) (h83 : ∀ i, i < 120 → K.2.1 83 i = nI (rsk V dn r T i)) (h85 : K.2.1 85 = fillN (V 6) (K.2.1 85) 120) (hnw : nw < 2 ^ 31) (hn50 : nw / 10 ≤ 50) (kx : AW none MX12_years d 0 0 195 [.ref 52, .int (nI r), .int (seed), .int (nI nw), .int ((lstD (V 7) dn)), .int ((mYrs V dn r T lo seed ((nw / 10))).1), .int ((mYrs V dn r T lo seed ((nw / 10))).2.1), .long ((mYrs V dn r T lo seed ((nw / 10))).2.2), .null, .int (nI ((nw / 10))), .null] [] (hp K) Po) : ∀ (n j : Nat), j + n = (nw / 10) → AW none MX12_years d 0 0 81 [.ref 52, .int (nI r), .int (seed), .int (nI nw), .int ((lstD (V 7) dn)), .int ((mYrs V dn r T lo seed j).1), .int ((mYrs V dn r T lo seed j).2.1), .long ((mYrs V dn r T lo seed j).2.2), .null, .int (nI j), .null] [] (hp K) Po := by
  intro n
  induction n with
  | zero =>
    intro j hj
    rw [show j = (nw / 10) by omega]
    refine k_iload eX12_years_81 rfl ?_
    refine k_iload_n eX12_years_83 rfl ?_
    refine k_bipush (v := nI 10) eX12_years_84 (by decide) ?_
    refine k_idivN eX12_years_86 (by omega) (by omega) (by omega) ?_
    refine k_icmp_geN 195 eX12_years_87 (by decide) (by omega) (by omega) (fun c_87 => ?_) (fun c_87 => by exfalso; omega)
    exact kx
  | succ n ih =>
    intro j hj
    refine k_iload eX12_years_81 rfl ?_
    refine k_iload_n eX12_years_83 rfl ?_
    refine k_bipush (v := nI 10) eX12_years_84 (by decide) ?_
    refine k_idivN eX12_years_86 (by omega) (by omega) (by omega) ?_
    refine k_icmp_geN 195 eX12_years_87 (by decide) (by omega) (by omega) (fun c_87 => by exfalso; omega) (fun c_87 => ?_)
    refine k_iconst (v := nI 0) eX12_years_90 (by decide) ?_
    refine k_istore (L2 := [_, _, _, _, _, _, _, _, _, _, _]) eX12_years_91 (Nat.le_of_ble_eq_true rfl) rfl ?_
    have hl120 := lsN_le hcd dn (Nat.le_refl _)
    have e6 : K.2.1 61 = V 6 := congrFun hV 6
    obtain ⟨s, hs⟩ : ∃ s, mYi (fun i => nI (rsk V dn r T i)) lo 120 ((mYrs V dn r T lo seed j).1, (mYrs V dn r T lo seed j).2.1, V 6, 0) = s := ⟨_, rfl⟩
    have hplS : PlanOk (vP V s.2.2.1) := by rw [← hs]; exact mYi_ok 120 ((mYrs V dn r T lo seed j).1, (mYrs V dn r T lo seed j).2.1, V 6, 0) hpl
    have hhi : ∀ i, 120 ≤ i → s.2.2.1 i = V 6 i := by rw [← hs]; exact mYi_hi 120 ((mYrs V dn r T lo seed j).1, (mYrs V dn r T lo seed j).2.1, V 6, 0) (fun _ _ => rfl)
    have eN : mYrs V dn r T lo seed (j + 1) = (s.1, s.2.1, (mYrs V dn r T lo seed j).2.2 + (if lsN V dn = 0 then 0 else (fitv (vP V s.2.2.1) r (lsN V dn - 1)).toInt64)) := by
      rw [mYrs_s, mYr, show y120 (fun i => nI (rsk V dn r T i)) lo ((mYrs V dn r T lo seed j).1, (mYrs V dn r T lo seed j).2.1, V 6, 0) = s from hs]
    refine k_heap (h2 := hp (sa K 61 (((mYrs V dn r T lo seed j).1, (mYrs V dn r T lo seed j).2.1, V 6, 0) : yT).2.2.1)) (by show hp K = hp (sa K 61 (V 6)); rw [← e6, sa_self]) ?_
    refine lX12_years (by omega) (K := K) (V := V) (dn := dn) (r := r) (lo := lo) (t := j) (nw := nw) (T := T) hlo hlo60 h83 (by omega) hnw 120 ((mYrs V dn r T lo seed j).1, (mYrs V dn r T lo seed j).2.1, V 6, 0) (show 120 ≤ 0 + 120 by decide) (show 0 ≤ 180 by decide) ?_
    rw [hs]
    obtain ⟨W, eW⟩ : ∃ W, sa K 61 s.2.2.1 = W := ⟨_, rfl⟩
    have hVW : vM W = vP V s.2.2.1 := by rw [← eW, vM_sa, hV]
    rw [eW]
    refine k_lload eX12_years_161 rfl ?_
    refine k_iload eX12_years_163 rfl ?_
    refine k_if_ge 172 eX12_years_165 (by decide) (fun c_165 => ?_) (fun c_165 => ?_)
    · refine k_aload_n eX12_years_172 rfl ?_
      refine k_iload_n eX12_years_173 rfl ?_
      refine k_iload eX12_years_174 rfl ?_
      have hl0 : 0 < lsN V dn := (lst_neg hcd).mp c_165
      refine k_topi (nI (lsN V dn - 1)) (by rw [lstD_at hcd hl0]) ?_
      refine k_iconst (v := nI 0) eX12_years_176 (by decide) ?_
      refine k_iconst (v := nI 0) eX12_years_177 (by decide) ?_
      refine cV1 (M' := MX12_sumOf) eX12_years_178 mX12_178 wX12_sumOf vX12_sumOf ⟨_, _, _, rfl, rfl, rfl⟩ rfl (pX12_sumOf (S := W) (V := vP V s.2.2.1) (r := r) (dd := lsN V dn - 1) (q := 0) (g := 0) hVW hplS hr (by omega) (by omega) (by omega)) (by omega) (Nat.le_of_ble_eq_true rfl) ?_
      refine k_i2l eX12_years_181 ?_
      refine k_ladd eX12_years_182 ?_
      refine k_topl ((mYrs V dn r T lo seed ((j + 1))).2.2) (by rw [eN]; first | (rw [if_neg (by omega), smV_fit]) | (rw [if_pos (Nat.le_zero.mp (Nat.not_lt.mp (fun q => c_165 ((lst_neg hcd).mpr q))))])) ?_
      refine k_lstore (L2 := [_, _, _, _, _, _, _, _, _, _, _]) eX12_years_183 (Nat.le_of_ble_eq_true rfl) rfl ?_
      refine k_aload_n eX12_years_185 rfl ?_
      refine cV0 (M' := MX12_lays) eX12_years_186 mX12_291 wX12_lays vX12_lays ⟨_, _, _, rfl, rfl, rfl⟩ rfl (pX12_lays (S := W) ) (by omega) (Nat.le_of_ble_eq_true rfl) ?_
      refine k_iincN (g := 1) (a := j) (L2 := [_, _, _, _, _, _, _, _, _, _, _]) eX12_years_189 (Nat.le_of_ble_eq_true rfl) rfl rfl ?_
      refine k_goto 81 eX12_years_192 (by decide) ?_
      refine k_forget 10 (L2 := [_, _, _, _, _, _, _, _, _, _, _]) rfl ?_
      refine k_heap (h2 := hp K) (congrArg hp ?_) ?_
      · rw [← eW, sa_sa]
        show sa K 61 (fillN (K.2.1 85) s.2.2.1 120) = K
        rw [h85, lay_bk (f := V 6) hhi, ← e6, sa_self]
      have q := ih (j + 1) (by omega)
      rw [eN] at q
      rw [eN]
      refine k_forget 10 (L2 := [_, _, _, _, _, _, _, _, _, _, _]) rfl ?_
      exact q
    refine k_lconst (v := 0) eX12_years_168 rfl ?_
    refine k_goto 182 eX12_years_169 (by decide) ?_
    refine k_ladd eX12_years_182 ?_
    refine k_topl ((mYrs V dn r T lo seed ((j + 1))).2.2) (by rw [eN]; first | (rw [if_neg (by omega), smV_fit]) | (rw [if_pos (Nat.le_zero.mp (Nat.not_lt.mp (fun q => c_165 ((lst_neg hcd).mpr q))))])) ?_
    refine k_lstore (L2 := [_, _, _, _, _, _, _, _, _, _, _]) eX12_years_183 (Nat.le_of_ble_eq_true rfl) rfl ?_
    refine k_aload_n eX12_years_185 rfl ?_
    refine cV0 (M' := MX12_lays) eX12_years_186 mX12_291 wX12_lays vX12_lays ⟨_, _, _, rfl, rfl, rfl⟩ rfl (pX12_lays (S := W) ) (by omega) (Nat.le_of_ble_eq_true rfl) ?_
    refine k_iincN (g := 1) (a := j) (L2 := [_, _, _, _, _, _, _, _, _, _, _]) eX12_years_189 (Nat.le_of_ble_eq_true rfl) rfl rfl ?_
    refine k_goto 81 eX12_years_192 (by decide) ?_
    refine k_forget 10 (L2 := [_, _, _, _, _, _, _, _, _, _, _]) rfl ?_
    refine k_heap (h2 := hp K) (congrArg hp ?_) ?_
    · rw [← eW, sa_sa]
      show sa K 61 (fillN (K.2.1 85) s.2.2.1 120) = K
      rw [h85, lay_bk (f := V 6) hhi, ← e6, sa_self]
    have q := ih (j + 1) (by omega)
    rw [eN] at q
    rw [eN]
    refine k_forget 10 (L2 := [_, _, _, _, _, _, _, _, _, _, _]) rfl ?_
    exact q
set_option maxHeartbeats 400000 in
theorem pX12_years {S : k_S} {V : k_V} (hV : vM S = V) {dn : Nat} (hdn : S.1 2611 = nI dn) (hcd : CntOk V dn) (hpl : PlanOk V) {rn : Nat} (hrn : S.1 2604 = nI rn) (hrn5 : rn ≤ 5) {T : List Int32} (hT : TxM S 0 T) {lo : Nat} (hlo : S.1 2618 = nI lo) (hlo60 : lo ≤ 60) (r seed nw : Int32) : Sp 6 0 0 MX12_years [.ref 52, .int (r), .int (seed), .int (nw)] (hp S) (Rx (some (.int (aMYrs V dn T lo (S.1 2604) r seed nw))) (fun S' => Frm [] [81, 82, 83, 85] [84] S S')) := by
  refine Sp_of (by decide +kernel) (Nat.le_of_ble_eq_true rfl) ?_
  show AW none MX12_years 6 0 0 0 [.ref 52, .int (r), .int (seed), .int (nw), .null, .null, .null, .null, .null, .null, .null] [] (hp S) _
  refine k_aload_n eX12_years_0 rfl ?_
  refine k_iload_n eX12_years_1 rfl ?_
  refine cV1 (M' := MX12_isRunner) eX12_years_2 mX12_127 wX12_isRunner vX12_isRunner ⟨_, _, _, rfl, rfl, rfl⟩ rfl (pX12_isRunner (S := S) (rn := rn) hrn hrn5 (r)) (by decide) (Nat.le_of_ble_eq_true rfl) ?_
  refine k_ifb_eq 33 eX12_years_5 (by decide) (fun c_5 => ?_) (fun c_5 => ?_)
  · refine k_ldc eX12_years_33 kX12_182 rfl ?_
    refine k_ireturn eX12_years_35 rfl rfl ?_
    exact ⟨by rw [aMYrs, if_neg (fun q => by first | exact c_5 q.1 | exact q.2.1 c_9 | exact c_22 (by have h := q.2.2.1; rw [(dmN hz31 (by decide) (by decide)).1] at h; exact h) | (have h := q.2.2.2; rw [(dmN hz31 (by decide) (by decide)).2] at h; have h2 := pInN h (by omega) (by decide); omega))], S, rfl, Frm.rf S⟩
  refine k_iload_n eX12_years_8 rfl ?_
  refine k_if_lt 33 eX12_years_9 (by decide) (fun c_9 => ?_) (fun c_9 => ?_)
  · refine k_ldc eX12_years_33 kX12_182 rfl ?_
    refine k_ireturn eX12_years_35 rfl rfl ?_
    exact ⟨by rw [aMYrs, if_neg (fun q => by first | exact c_5 q.1 | exact q.2.1 c_9 | exact c_22 (by have h := q.2.2.1; rw [(dmN hz31 (by decide) (by decide)).1] at h; exact h) | (have h := q.2.2.2; rw [(dmN hz31 (by decide) (by decide)).2] at h; have h2 := pInN h (by omega) (by decide); omega))], S, rfl, Frm.rf S⟩
  obtain ⟨z, hz31, rfl⟩ := k_nneg c_9
  refine k_iload_n eX12_years_12 rfl ?_
  refine k_bipush (v := nI 10) eX12_years_13 (by decide) ?_
  refine k_idivN eX12_years_15 (by omega) (by omega) (by omega) ?_
  refine k_iconst (v := nI 1) eX12_years_16 (by decide) ?_
  refine k_bipush (v := nI 50) eX12_years_17 (by decide) ?_
  refine cS1 (M' := MX12_in) eX12_years_19 mX12_120 wX12_in sX12_in rfl (pX12_in (nI (z / 10)) (nI 1) (nI 50)) (by decide) (Nat.le_of_ble_eq_true rfl) ?_
  refine k_ifb_eq 33 eX12_years_22 (by decide) (fun c_22 => ?_) (fun c_22 => ?_)
  · refine k_ldc eX12_years_33 kX12_182 rfl ?_
    refine k_ireturn eX12_years_35 rfl rfl ?_
    exact ⟨by rw [aMYrs, if_neg (fun q => by first | exact c_5 q.1 | exact q.2.1 c_9 | exact c_22 (by have h := q.2.2.1; rw [(dmN hz31 (by decide) (by decide)).1] at h; exact h) | (have h := q.2.2.2; rw [(dmN hz31 (by decide) (by decide)).2] at h; have h2 := pInN h (by omega) (by decide); omega))], S, rfl, Frm.rf S⟩
  refine k_iload_n eX12_years_25 rfl ?_
  refine k_bipush (v := nI 10) eX12_years_26 (by decide) ?_
  refine k_iremN eX12_years_28 (by omega) (by omega) (by omega) ?_
  refine k_iconst (v := nI 1) eX12_years_29 (by decide) ?_
  refine k_icmp_leN 36 eX12_years_30 (by decide) (by omega) (by omega) (fun c_30 => ?_) (fun c_30 => ?_)
  · have hC : pYrs (S.1 2604) r (nI z) := ⟨c_5, c_9, by rw [(dmN hz31 (by decide) (by decide)).1]; exact c_22, by rw [(dmN hz31 (by decide) (by decide)).2]; exact pNIn c_30 (by decide)⟩
    have hn50 : z / 10 ≤ 50 := pInN c_22 (by omega) (by decide)
    have hn1 : 1 ≤ z / 10 := by have h8 := Int32.le_iff_toInt_le.mp c_22.1; rw [nI_toInt (by omega), nI_toInt (by omega)] at h8; omega
    obtain ⟨u, hu, rfl⟩ := pW_ex c_5 hrn (by omega)
    have hl120 := lsN_le hcd dn (Nat.le_refl _)
    have e10 : rm (nI z) (nI 10) = nI (z % 10) := (dmN hz31 (by decide) (by decide)).2
    have e11 : ix (nI z / nI 10) = z / 10 := by rw [(dmN hz31 (by decide) (by decide)).1, ix_nI (by omega)]
    refine k_aload_n eX12_years_36 rfl ?_
    refine cV1 (M' := MX12_lastCount) eX12_years_37 mX12_199 wX12_lastCount vX12_lastCount ⟨_, _, _, rfl, rfl, rfl⟩ rfl (pX12_lastCount (S := S) (V := V) (dn := dn) hV hdn hcd) (by decide) (Nat.le_of_ble_eq_true rfl) ?_
    refine k_istore (L2 := [_, _, _, _, _, _, _, _, _, _, _]) eX12_years_40 (Nat.le_of_ble_eq_true rfl) rfl ?_
    refine k_iload_n eX12_years_42 rfl ?_
    refine k_bipush (v := nI 10) eX12_years_43 (by decide) ?_
    refine k_iremN eX12_years_45 (by omega) (by omega) (by omega) ?_
    refine k_iconst (v := nI 1) eX12_years_46 (by decide) ?_
    refine k_icmp_neN 58 eX12_years_47 (by decide) (by omega) (by omega) (fun c_47 => ?_) (fun c_47 => ?_)
    · refine k_aload_n eX12_years_58 rfl ?_
      refine k_iload_n eX12_years_59 rfl ?_
      refine k_bipush (v := nI 119) eX12_years_60 (by decide) ?_
      refine cVX0 (v := .null) (M' := MX12_risksTo) eX12_years_62 mX12_282 wX12_risksTo vX12_risksTo ⟨_, _, _, rfl, rfl, rfl⟩ rfl (pX12_risksTo (S := S) (V := V) (dn := dn) (r := u) (la := 119) hV hdn hcd hpl (by omega) (by omega) (T := T) hT) (by decide) (Nat.le_of_ble_eq_true rfl) ?_
      rintro U ⟨h83, h84, fu⟩
      refine k_aload_n eX12_years_65 rfl ?_
      refine cV0 (M' := MX12_keeps) eX12_years_66 mX12_285 wX12_keeps vX12_keeps ⟨_, _, _, rfl, rfl, rfl⟩ rfl (pX12_keeps (S := U) ) (by decide) (Nat.le_of_ble_eq_true rfl) ?_
      refine k_iload_n eX12_years_69 rfl ?_
      refine k_istore (L2 := [_, _, _, _, _, _, _, _, _, _, _]) eX12_years_70 (Nat.le_of_ble_eq_true rfl) rfl ?_
      refine k_iconst (v := nI 0) eX12_years_72 (by decide) ?_
      refine k_istore (L2 := [_, _, _, _, _, _, _, _, _, _, _]) eX12_years_73 (Nat.le_of_ble_eq_true rfl) rfl ?_
      refine k_lconst (v := 0) eX12_years_75 rfl ?_
      refine k_lstore (L2 := [_, _, _, _, _, _, _, _, _, _, _]) eX12_years_76 (Nat.le_of_ble_eq_true rfl) rfl ?_
      refine k_iconst (v := nI 0) eX12_years_78 (by decide) ?_
      refine k_istore (L2 := [_, _, _, _, _, _, _, _, _, _, _]) eX12_years_79 (Nat.le_of_ble_eq_true rfl) rfl ?_
      obtain ⟨K, eK⟩ : ∃ K, (sa U 85 (fillN (U.2.1 61) (U.2.1 85) 120)) = K := ⟨_, rfl⟩
      have hVU : vM U = V := (fu.M (by decide)).trans hV
      have hVK : vM K = V := by rw [← eK]; exact hVU
      have hdnK : K.1 2611 = nI dn := by rw [← eK]; exact (fu.1 2611 (by decide)).trans hdn
      have hloK : K.1 2618 = nI lo := by rw [← eK]; exact (fu.1 2618 (by decide)).trans hlo
      have h85 : K.2.1 85 = fillN (V 6) (K.2.1 85) 120 := by
        rw [← eK, sa_at, show U.2.1 61 = V 6 from congrFun hVU 6]
        funext i; rw [fillN_at, fillN_at, fillN_at]; split <;> rfl
      have h83K : ∀ i, i < 120 → K.2.1 83 i = nI (rsk V dn u T i) := by rw [← eK]; exact h83
      have fK : Frm [] [81, 82, 83, 85] [84] S K := by rw [← eK]; exact (fu.wk (by decide) (by decide) (by decide)).sa (by decide) _
      refine k_heap (h2 := hp K) (congrArg hp eK) ?_
      refine k_loc (L2 := [_, _, _, _, _, .int (mYrs V dn u T lo seed 0).1, .int (mYrs V dn u T lo seed 0).2.1, .long (mYrs V dn u T lo seed 0).2.2, _, .int (nI 0), _]) rfl ?_
      refine mX12_years (by decide) (K := K) hVK hdnK hcd hpl (r := u) (lo := lo) (nw := z) (T := T) (by omega) seed hloK hlo60 h83K h85 hz31 hn50 ?_ (z / 10) 0 (by omega)
      refine k_iload_n eX12_years_195 rfl ?_
      refine k_bipush (v := nI 10) eX12_years_196 (by decide) ?_
      refine k_iremN eX12_years_198 (by omega) (by omega) (by omega) ?_
      refine k_if_neN 207 eX12_years_199 (by decide) (by omega) (fun c_199 => ?_) (fun c_199 => ?_)
      · refine k_lload eX12_years_207 rfl ?_
        refine k_iload_n eX12_years_209 rfl ?_
        refine k_bipush (v := nI 10) eX12_years_210 (by decide) ?_
        refine k_idivN eX12_years_212 (by omega) (by omega) (by omega) ?_
        refine k_i2l eX12_years_213 ?_
        refine k_ldiv eX12_years_214 (jN_ne0 (by omega) (by omega)) ?_
        refine k_l2i eX12_years_215 ?_
        refine k_ireturn eX12_years_216 rfl rfl ?_
        exact ⟨by rw [aMYrs, if_pos hC, e10, if_pos (by rw [show z % 10 = 1 by omega]), if_neg (by first | omega | (have h9 := (lst_neg hcd).mp c_52; omega)), e11, ix_nI (by omega)], K, rfl, fK⟩
      refine k_iload eX12_years_202 rfl ?_
      refine k_goto 216 eX12_years_204 (by decide) ?_
      refine k_ireturn eX12_years_216 rfl rfl ?_
      exact ⟨by rw [aMYrs, if_pos hC, e10, if_neg (fun z2 => by have z3 := congrArg Int32.toInt z2; rw [nI_toInt (by omega), nI_toInt (by omega)] at z3; omega), e11, ix_nI (by omega)], K, rfl, fK⟩
    refine k_iload eX12_years_50 rfl ?_
    refine k_if_ge 58 eX12_years_52 (by decide) (fun c_52 => ?_) (fun c_52 => ?_)
    · refine k_aload_n eX12_years_58 rfl ?_
      refine k_iload_n eX12_years_59 rfl ?_
      refine k_bipush (v := nI 119) eX12_years_60 (by decide) ?_
      refine cVX0 (v := .null) (M' := MX12_risksTo) eX12_years_62 mX12_282 wX12_risksTo vX12_risksTo ⟨_, _, _, rfl, rfl, rfl⟩ rfl (pX12_risksTo (S := S) (V := V) (dn := dn) (r := u) (la := 119) hV hdn hcd hpl (by omega) (by omega) (T := T) hT) (by decide) (Nat.le_of_ble_eq_true rfl) ?_
      rintro U ⟨h83, h84, fu⟩
      refine k_aload_n eX12_years_65 rfl ?_
      refine cV0 (M' := MX12_keeps) eX12_years_66 mX12_285 wX12_keeps vX12_keeps ⟨_, _, _, rfl, rfl, rfl⟩ rfl (pX12_keeps (S := U) ) (by decide) (Nat.le_of_ble_eq_true rfl) ?_
      refine k_iload_n eX12_years_69 rfl ?_
      refine k_istore (L2 := [_, _, _, _, _, _, _, _, _, _, _]) eX12_years_70 (Nat.le_of_ble_eq_true rfl) rfl ?_
      refine k_iconst (v := nI 0) eX12_years_72 (by decide) ?_
      refine k_istore (L2 := [_, _, _, _, _, _, _, _, _, _, _]) eX12_years_73 (Nat.le_of_ble_eq_true rfl) rfl ?_
      refine k_lconst (v := 0) eX12_years_75 rfl ?_
      refine k_lstore (L2 := [_, _, _, _, _, _, _, _, _, _, _]) eX12_years_76 (Nat.le_of_ble_eq_true rfl) rfl ?_
      refine k_iconst (v := nI 0) eX12_years_78 (by decide) ?_
      refine k_istore (L2 := [_, _, _, _, _, _, _, _, _, _, _]) eX12_years_79 (Nat.le_of_ble_eq_true rfl) rfl ?_
      obtain ⟨K, eK⟩ : ∃ K, (sa U 85 (fillN (U.2.1 61) (U.2.1 85) 120)) = K := ⟨_, rfl⟩
      have hVU : vM U = V := (fu.M (by decide)).trans hV
      have hVK : vM K = V := by rw [← eK]; exact hVU
      have hdnK : K.1 2611 = nI dn := by rw [← eK]; exact (fu.1 2611 (by decide)).trans hdn
      have hloK : K.1 2618 = nI lo := by rw [← eK]; exact (fu.1 2618 (by decide)).trans hlo
      have h85 : K.2.1 85 = fillN (V 6) (K.2.1 85) 120 := by
        rw [← eK, sa_at, show U.2.1 61 = V 6 from congrFun hVU 6]
        funext i; rw [fillN_at, fillN_at, fillN_at]; split <;> rfl
      have h83K : ∀ i, i < 120 → K.2.1 83 i = nI (rsk V dn u T i) := by rw [← eK]; exact h83
      have fK : Frm [] [81, 82, 83, 85] [84] S K := by rw [← eK]; exact (fu.wk (by decide) (by decide) (by decide)).sa (by decide) _
      refine k_heap (h2 := hp K) (congrArg hp eK) ?_
      refine k_loc (L2 := [_, _, _, _, _, .int (mYrs V dn u T lo seed 0).1, .int (mYrs V dn u T lo seed 0).2.1, .long (mYrs V dn u T lo seed 0).2.2, _, .int (nI 0), _]) rfl ?_
      refine mX12_years (by decide) (K := K) hVK hdnK hcd hpl (r := u) (lo := lo) (nw := z) (T := T) (by omega) seed hloK hlo60 h83K h85 hz31 hn50 ?_ (z / 10) 0 (by omega)
      refine k_iload_n eX12_years_195 rfl ?_
      refine k_bipush (v := nI 10) eX12_years_196 (by decide) ?_
      refine k_iremN eX12_years_198 (by omega) (by omega) (by omega) ?_
      refine k_if_neN 207 eX12_years_199 (by decide) (by omega) (fun c_199 => ?_) (fun c_199 => ?_)
      · refine k_lload eX12_years_207 rfl ?_
        refine k_iload_n eX12_years_209 rfl ?_
        refine k_bipush (v := nI 10) eX12_years_210 (by decide) ?_
        refine k_idivN eX12_years_212 (by omega) (by omega) (by omega) ?_
        refine k_i2l eX12_years_213 ?_
        refine k_ldiv eX12_years_214 (jN_ne0 (by omega) (by omega)) ?_
        refine k_l2i eX12_years_215 ?_
        refine k_ireturn eX12_years_216 rfl rfl ?_
        exact ⟨by rw [aMYrs, if_pos hC, e10, if_pos (by rw [show z % 10 = 1 by omega]), if_neg (by first | omega | (have h9 := (lst_neg hcd).mp c_52; omega)), e11, ix_nI (by omega)], K, rfl, fK⟩
      refine k_iload eX12_years_202 rfl ?_
      refine k_goto 216 eX12_years_204 (by decide) ?_
      refine k_ireturn eX12_years_216 rfl rfl ?_
      exact ⟨by rw [aMYrs, if_pos hC, e10, if_neg (fun z2 => by have z3 := congrArg Int32.toInt z2; rw [nI_toInt (by omega), nI_toInt (by omega)] at z3; omega), e11, ix_nI (by omega)], K, rfl, fK⟩
    refine k_bipush (v := (-2)) eX12_years_55 (by decide) ?_
    refine k_ireturn eX12_years_57 rfl rfl ?_
    have hl0 : lsN V dn = 0 := Nat.le_zero.mp (Nat.not_lt.mp (fun q => c_52 ((lst_neg hcd).mpr q)))
    exact ⟨by rw [aMYrs, if_pos hC, e10, if_pos (by rw [c_47]), if_pos hl0], S, rfl, Frm.rf S⟩
  refine k_ldc eX12_years_33 kX12_182 rfl ?_
  refine k_ireturn eX12_years_35 rfl rfl ?_
  exact ⟨by rw [aMYrs, if_neg (fun q => by first | exact c_5 q.1 | exact q.2.1 c_9 | exact c_22 (by have h := q.2.2.1; rw [(dmN hz31 (by decide) (by decide)).1] at h; exact h) | (have h := q.2.2.2; rw [(dmN hz31 (by decide) (by decide)).2] at h; have h2 := pInN h (by omega) (by decide); omega))], S, rfl, Frm.rf S⟩
