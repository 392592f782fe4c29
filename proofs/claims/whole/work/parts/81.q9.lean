theorem sumN_one {f g : Nat → Int32} {p : Nat} (h : ∀ i, i ≠ p → g i = f i) : ∀ n, p < n → sumN g n = sumN f n - f p + g p
  | 0, hn => absurd hn (by omega)
  | n + 1, hn => by
    rw [sumN_s, sumN_s]
    by_cases c : p = n
    · subst c
      rw [sumN_congr p (fun i hi => h i (by omega))]
      generalize sumN f p = x; generalize f p = y; generalize g p = z
      grind
    · rw [sumN_one h n (by omega), h n (by omega)]
      generalize sumN f n = x; generalize f p = y; generalize g p = z; generalize f n = t
      grind
theorem wor_P (V : k_V) (p : Nat → Int32) (dn r w d : Nat) : wor (vP V p) dn r w d = wor V dn r w d := rfl
theorem gai_one (V : k_V) {dn r w dd : Nat} (hd : dd < 120) (hw : w < 6) : gai (vP V (va_up (V 6) dd (nI w))) dn r 120 = gEl V dn dd r + wor V dn r w dd := by
  have h : ∀ i, i ≠ dd → wor (vP V (va_up (V 6) dd (nI w))) dn r (pw (vP V (va_up (V 6) dd (nI w))) i) i = wor V dn r (pw V i) i := by
    intro i hi
    rw [wor_P]
    have e : pw (vP V (va_up (V 6) dd (nI w))) i = pw V i := by
      unfold pw; rw [vP_6, va_ne _ _ hi]
    rw [e]
  have q := sumN_one (f := fun d => wor V dn r (pw V d) d) (g := fun d => wor (vP V (va_up (V 6) dd (nI w))) dn r (pw (vP V (va_up (V 6) dd (nI w))) d) d) (p := dd) h 120 hd
  have e2 : wor (vP V (va_up (V 6) dd (nI w))) dn r (pw (vP V (va_up (V 6) dd (nI w))) dd) dd = wor V dn r w dd := by
    rw [wor_P]
    have e : pw (vP V (va_up (V 6) dd (nI w))) dd = w := by
      unfold pw; rw [vP_6, va_a1, ix_nI (by omega)]
    rw [e]
  have q2 : gai (vP V (va_up (V 6) dd (nI w))) dn r 120 = sumN (fun d => wor V dn r (pw V d) d) 120 - wor V dn r (pw V dd) dd + wor (vP V (va_up (V 6) dd (nI w))) dn r (pw (vP V (va_up (V 6) dd (nI w))) dd) dd := q
  rw [q2, e2]; rfl
theorem mnG_cg {f g : Nat → Int32} : ∀ n, (∀ i, i ≤ n → f i = g i) → mnG f n = mnG g n
  | 0, h => by rw [mnG, mnG]; exact h 0 (by omega)
  | n + 1, h => by
    have e1 := mnG_cg n (fun i hi => h i (by omega))
    have e2 := h (n + 1) (by omega)
    unfold mnG
    rw [e1, e2]
theorem frL_cg {f g : Nat → Int32} : ∀ n, (∀ i, i ≤ n → f i = g i) → frL f n = frL g n
  | 0, h => by rw [frL, frL, h 0 (by omega)]
  | n + 1, h => by rw [frL, frL, frL_cg n (fun i hi => h i (by omega)), h (n + 1) (by omega)]
theorem aGrp_eq (V : k_V) {dn wk rn : Nat} (h1 : 1 ≤ wk) (h6 : wk ≤ 6) (x w : Int32) : aMGrp V dn wk rn x w = aGrp V dn wk rn x w := by
  rw [aMGrp, aGrp]
  by_cases c : pD x ∧ pIn w (nI 0) (nI 2)
  · rw [if_pos c, if_pos c]
    obtain ⟨d, hd, rfl⟩ := pD_ex c.1
    rw [ix_nI (by omega), frL_cg (f := lsM V dn rn d) (g := lsG V dn rn d) (wk - 1) (fun i hi => mnG_cg _ (fun r _ => gai_one V hd (by omega)))]
  · rw [if_neg c, if_neg c]
theorem bo_group {S : k_S} (h : RRx S) (x w : Int32) : Both MX11_group MX12_group [.int x, .int w] S := by
  have h0 := h
  obtain ⟨wk, rn, dn, tp, T0, T1, T2, lo, tn, nd, nu, kn, ra, h⟩ := h
  have b := h.b1
  have qc := pX11_group (S := S) (V := vC S) rfl b.dnC b.cnt b.pln b.rnC b.rn5 b.wkC b.wk1 b.wk6 x w
  refine both_x (dc := 6) (dm := 4) h0 (by decide) (by decide) (Rx.x qc (by decide) (by decide) (by decide)) (fun S1 f1 => ?_)
  have b1 := b.fr f1 (by decide) (by decide) (by decide)
  have eV : vC S1 = vC S := f1.V (by decide)
  have qm := pX12_group (S := S1) (V := vC S1) b1.hV.symm b1.dnM b1.cnt b1.wkM b1.wk1 b1.wk6 b1.pln b1.rst b1.rnM b1.rn5 x w
  rw [aGrp_eq (vC S1) b.wk1 b.wk6 x w, eV] at qm
  exact Rt.x qm
