theorem bg_pl (V : k_V) {p p2 : Nat → Int32} (r n0 : Nat) {i : Nat} (h : p i = p2 i) : bg (vP V p) r n0 i = bg (vP V p2) r n0 i := by
  have e : pw (vP V p) i = pw (vP V p2) i := by unfold pw; rw [vP_6, vP_6, h]
  rw [bg, bg, e]; rfl
theorem bg_V6 (V : k_V) {p : Nat → Int32} (r n0 : Nat) {i : Nat} (h : p i = V 6 i) : bg (vP V p) r n0 i = bg V r n0 i := by
  have e : pw (vP V p) i = pw V i := by unfold pw; rw [vP_6, h]
  rw [bg, bg, e]; rfl
theorem bg_0 {V : k_V} (h0 : RstOk V) {p : Nat → Int32} (r n0 : Nat) {i : Nat} (h : p i = nI 0) : bg (vP V p) r n0 i = nI 0 := by
  have e : pw (vP V p) i = 0 := by unfold pw; rw [vP_6, h]; rfl
  rw [bg, e]
  by_cases c : i < n0
  · rw [if_pos c]; exact pts_0 (V := vP V p) h0 r _
  · rw [if_neg c]
/-- how a day of the one and a step of the other stand to each other -/
def yR (V : k_V) (r n0 lo : Nat) (rk : Nat → Int32) (q : Int32 × Int32 × Int64) (j : Nat) (d : Int32 × Int32 × Int64 × Nat) (k : Nat) (s : yT) : Prop :=
  k ≤ j ∧ (∀ K, mYi rk lo (k + K) (q.1, q.2.1, V 6, 0) = mYi rk lo K s) ∧ s.1 = d.1 ∧ s.2.1 = d.2.1 ∧ s.2.2.2 = j + d.2.2.2 ∧ (∀ i, j + d.2.2.2 ≤ i → s.2.2.1 i = V 6 i) ∧ (∀ i, j ≤ i → i < j + d.2.2.2 → i < 120 → s.2.2.1 i = nI 0) ∧ PlanOk (vP V s.2.2.1) ∧ d.2.2.1 = q.2.2 + (sumN (bg (vP V s.2.2.1) r n0) j).toInt64
theorem yR_s {V : k_V} (hv : ValOk V) (h0 : RstOk V) (hpl : PlanOk V) {r n0 lo : Nat} (hr : r < 5) (hn0 : n0 ≤ 120) {rk : Nat → Int32} (q : Int32 × Int32 × Int64) : ∀ j, j ≤ 120 → ∃ k s, yR V r n0 lo rk q j (yd (bg V r n0) rk lo q j) k s
  | 0, _ => ⟨0, (q.1, q.2.1, V 6, 0), Nat.le_refl _, fun K => by rw [Nat.zero_add], rfl, rfl, rfl, fun i _ => rfl, fun i h1 h2 => by have h3 : i < 0 + 0 := h2; omega, hpl, by show q.2.2 = q.2.2 + 0; exact (Int64.add_zero _).symm⟩
  | j + 1, hj => by
    obtain ⟨k, s, y1, y2, y3, y4, y5, y6, y7, y8, y9⟩ := yR_s hv h0 hpl hr hn0 (lo := lo) (rk := rk) q j (by omega)
    rcases hd : yd (bg V r n0) rk lo q j with ⟨z, hh, S, c⟩
    rw [yd, hd]
    rw [hd] at y3 y4 y5 y6 y7 y9
    dsimp only at y3 y4 y5 y6 y7 y9 ⊢
    by_cases c0 : 0 < c
    · rw [if_pos c0]
      refine ⟨k, s, by omega, y2, y3, y4, by show s.2.2.2 = j + 1 + (c - 1); omega, fun i hi => y6 i (by have hi2 : j + 1 + (c - 1) ≤ i := hi; omega), fun i h1 h2 h3 => y7 i (by omega) (by have h4 : i < j + 1 + (c - 1) := h2; omega) h3, y8, ?_⟩
      show S = _
      rw [sumN_s, bg_0 h0 r n0 (y7 j (by omega) (by omega) (by omega)), addz]; exact y9
    · have hc : c = 0 := by omega
      subst hc
      rw [if_neg (by omega)]
      have hday : s.2.2.2 = j := by omega
      have hm : ∀ K, mYi rk lo (k + 1 + K) (q.1, q.2.1, V 6, 0) = mYi rk lo K (mYs rk lo s) := by
        intro K
        rw [show k + 1 + K = k + (K + 1) by omega, y2 (K + 1), mYi, if_pos (by omega)]
      have hV6 : s.2.2.1 j = V 6 j := y6 j (by omega)
      have hsum : q.2.2 + (sumN (bg (vP V s.2.2.1) r n0) (j + 1)).toInt64 = S + (bg V r n0 j).toInt64 := by
        rw [sumN_s, y9, bg_V6 V r n0 hV6]
        have q1 := sumN_bnd (f := bg (vP V s.2.2.1) r n0) (A := 99000) (B := 148000) (by omega) (by omega) j (by omega) (fun i _ => by have := bg_bnd (V := vP V s.2.2.1) hv y8 hr hn0 i; omega)
        have q2 := bg_bnd hv hpl hr hn0 j
        rw [add_64 (by omega) (by omega), Int64.add_assoc]
      by_cases c1 : rndv (rndz z) < rk j
      · rw [if_pos c1]
        have es : mYs rk lo s = (rndz z, hh + 1, rsP s.2.2.1 (j + 1) (min lo (120 - (j + 1))), j + lo + 1) := by
          rw [mYs, y3, hday, if_pos c1, y4]
        refine ⟨k + 1, mYs rk lo s, by omega, hm, ?_⟩
        rw [es]
        refine ⟨rfl, rfl, by show j + lo + 1 = j + 1 + lo; omega, fun i hi => ?_, fun i h1 h2 h3 => ?_, rsP_ok y8 _ _, ?_⟩
        · have hi2 : j + 1 + lo ≤ i := hi
          show rsP s.2.2.1 (j + 1) (min lo (120 - (j + 1))) i = _
          rw [rsP_at, if_neg (by omega)]; exact y6 i (by omega)
        · have h4 : i < j + 1 + lo := h2
          show rsP s.2.2.1 (j + 1) (min lo (120 - (j + 1))) i = _
          rw [rsP_at, if_pos (by omega)]
        · show S + (bg V r n0 j).toInt64 = q.2.2 + (sumN (bg (vP V (rsP s.2.2.1 (j + 1) (min lo (120 - (j + 1))))) r n0) (j + 1)).toInt64
          rw [← hsum]
          congr 2
          exact sumN_congr _ (fun i hi => bg_pl V r n0 (by rw [rsP_at, if_neg (by omega)]))
      · rw [if_neg c1]
        have es : mYs rk lo s = (rndz z, hh, s.2.2.1, j + 1) := by
          rw [mYs, y3, hday, if_neg c1, y4]
        refine ⟨k + 1, mYs rk lo s, by omega, hm, ?_⟩
        rw [es]
        refine ⟨rfl, rfl, rfl, fun i hi => y6 i (by have hi2 : j + 1 + 0 ≤ i := hi; omega), fun i h1 h2 h3 => by have h4 : i < j + 1 + 0 := h2; omega, y8, hsum.symm⟩
theorem mYi_end {rk : Nat → Int32} {lo : Nat} {s : yT} (h : 120 ≤ s.2.2.2) : ∀ K, mYi rk lo K s = s
  | 0 => rfl
  | K + 1 => by rw [mYi, if_neg (by omega)]
/-- a year, in both -/
theorem mYr_eq {V : k_V} (hv : ValOk V) (h0 : RstOk V) (hpl : PlanOk V) {dn r lo : Nat} (hcd : CntOk V dn) (hr : r < 5) {rk : Nat → Int32} : mYr V dn r rk lo = yF (bg V r (lsN V dn)) rk lo := by
  funext q
  have hn0 := lsN_le hcd dn (Nat.le_refl _)
  obtain ⟨k, s, y1, y2, y3, y4, y5, y6, y7, y8, y9⟩ := yR_s hv h0 hpl hr hn0 (lo := lo) (rk := rk) q 120 (Nat.le_refl _)
  obtain ⟨d, hdd⟩ : ∃ d, yd (bg V r (lsN V dn)) rk lo q 120 = d := ⟨_, rfl⟩
  rw [hdd] at y3 y4 y5 y6 y7 y9
  have e : y120 rk lo (q.1, q.2.1, V 6, 0) = s := by
    have e2 := y2 (120 - k)
    have e3 : mYi rk lo (120 - k) s = s := mYi_end (by omega) _
    rw [show k + (120 - k) = 120 by omega, e3] at e2
    exact e2
  have e4 : (if lsN V dn = 0 then (0 : Int64) else (fitv (vP V s.2.2.1) r (lsN V dn - 1)).toInt64) = (sumN (bg (vP V s.2.2.1) r (lsN V dn)) 120).toInt64 := by
    by_cases c : lsN V dn = 0
    · rw [if_pos c, c, sumN_z (f := bg (vP V s.2.2.1) r 0) 120 (fun i _ => by rw [bg, if_neg (by omega)])]; rfl
    · rw [if_neg c, fitv_bg (V := vP V s.2.2.1) h0 r (show lsN V dn - 1 < 120 by omega), show lsN V dn - 1 + 1 = lsN V dn by omega]
  rw [mYr, e, yF, hdd, tr3, y3, y4, y9, e4]
theorem aMYrs_eq {V : k_V} (hv : ValOk V) (h0 : RstOk V) (hpl : PlanOk V) {dn lo rn : Nat} (hcd : CntOk V dn) (h5 : rn ≤ 5) (T : List Int32) (r s y : Int32) : aMYrs V dn T lo (nI rn) r s y = aYrs V dn T lo (nI rn) r s y := by
  rw [aMYrs, aYrs]
  by_cases c : pYrs (nI rn) r y
  · obtain ⟨u, hu, rfl⟩ := pW_ex c.1 rfl (by omega)
    have e : ∀ n, mYrs V dn u T lo s n = yrs V dn u T lo s n := by
      intro n
      rw [mYrs, yrs, ys, mYr_eq hv h0 hpl hcd (by omega)]
    rw [ix_nI (by omega), e]
  · rw [if_neg c, if_neg c]
theorem bo_years {S : k_S} (h : RRx S) (r s y : Int32) : Both MX11_years MX12_years [.int r, .int s, .int y] S := by
  have h0 := h
  obtain ⟨wk, rn, dn, tp, T0, T1, T2, lo, tn, nd, nu, kn, ra, h⟩ := h
  have b := h.b1
  have qc := pX11_years (S := S) (V := vC S) rfl b.dnC b.cnt b.pln b.rnC b.rn5 h.b3.c0 h.b4.loC h.b4.lo60 r s y
  rw [b.rnC] at qc
  refine both_x (dc := 6) (dm := 6) h0 (by decide) (by decide) (Rx.x qc (by decide) (by decide) (by decide)) (fun S1 f1 => ?_)
  have b1 := b.fr f1 (by decide) (by decide) (by decide)
  have eV : vC S1 = vC S := f1.V (by decide)
  have qm := pX12_years (S := S1) (V := vC S1) b1.hV.symm b1.dnM b1.cnt b1.pln b1.rnM b1.rn5 (h.b3.m0.fr f1 (by decide) (by decide)) ((f1.1 2618 (by decide)).trans h.b4.loM) h.b4.lo60 r s y
  rw [b1.rnM, aMYrs_eq b1.val b1.rst b1.pln b1.cnt b.rn5, eV] at qm
  exact Rx.x qm (by decide) (by decide) (by decide)
