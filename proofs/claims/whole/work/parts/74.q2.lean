theorem bo_of {S : k_S} (h : RRx S) (x : Int32) : Both MX11_of MX12_of [.int x] S := by
  have h0 := h
  obtain ⟨wk, rn, dn, tp, T0, T1, T2, lo, tn, nd, nu, kn, ra, h⟩ := h
  have b := h.b1
  refine both_x (v := .int (aOf (vC S) x)) (dc := 2) (dm := 2) h0 (by decide) (by decide) ?_ ?_
  · have q := pX11_of (S := S) rfl x
    exact Rt.x q
  · intro S1 f
    have b' := b.fr f (by decide) (by decide) (by decide)
    have h' := h.fr f
    have hV2 : vM S1 = vC S := b'.hV.symm.trans (f.V (by decide))
    have q := pX12_of (S := S1) hV2 x
    exact Rt.x q
theorem bo_fit {S : k_S} (h : RRx S) (x w : Int32) : Both MX11_fit MX12_fit [.int x, .int w] S := by
  have h0 := h
  obtain ⟨wk, rn, dn, tp, T0, T1, T2, lo, tn, nd, nu, kn, ra, h⟩ := h
  have b := h.b1
  refine both_x (v := .int (aFit (vC S) (nI rn) x w)) (dc := 3) (dm := 3) h0 (by decide) (by decide) ?_ ?_
  · have q := pX11_fit (S := S) rfl b.pln b.rnC b.rn5 x w
    rw [b.rnC] at q
    exact Rt.x q
  · intro S1 f
    have b' := b.fr f (by decide) (by decide) (by decide)
    have h' := h.fr f
    have hV2 : vM S1 = vC S := b'.hV.symm.trans (f.V (by decide))
    have q := pX12_fit (S := S1) hV2 b.pln b'.rnM b.rn5 x w
    rw [b'.rnM] at q
    exact Rt.x q
theorem bo_points {S : k_S} (h : RRx S) (x y z : Int32) : Both MX11_points MX12_points [.int x, .int y, .int z] S := by
  have h0 := h
  obtain ⟨wk, rn, dn, tp, T0, T1, T2, lo, tn, nd, nu, kn, ra, h⟩ := h
  have b := h.b1
  refine both_x (v := .int (aPts (vC S) (nI rn) (nI wk) x y z)) (dc := 3) (dm := 2) h0 (by decide) (by decide) ?_ ?_
  · have q := pX11_points (S := S) rfl b.rnC b.rn5 b.wkC b.wk1 b.wk6 x y z
    rw [b.rnC, b.wkC] at q
    exact Rt.x q
  · intro S1 f
    have b' := b.fr f (by decide) (by decide) (by decide)
    have h' := h.fr f
    have hV2 : vM S1 = vC S := b'.hV.symm.trans (f.V (by decide))
    have q := pX12_points (S := S1) hV2 b'.rnM b.rn5 b'.wkM b.wk1 b.wk6 x y z
    rw [b'.rnM, b'.wkM] at q
    exact Rt.x q
theorem bo_worth {S : k_S} (h : RRx S) (x y : Int32) : Both MX11_worth MX12_worth [.int x, .int y] S := by
  have h0 := h
  obtain ⟨wk, rn, dn, tp, T0, T1, T2, lo, tn, nd, nu, kn, ra, h⟩ := h
  have b := h.b1
  refine both_x (v := .int (aWor (vC S) dn (nI rn) (nI wk) x y)) (dc := 4) (dm := 3) h0 (by decide) (by decide) ?_ ?_
  · have q := pX11_worth (S := S) rfl b.dnC b.cnt b.rnC b.rn5 b.wkC b.wk1 b.wk6 x y
    rw [b.rnC, b.wkC] at q
    exact Rt.x q
  · intro S1 f
    have b' := b.fr f (by decide) (by decide) (by decide)
    have h' := h.fr f
    have hV2 : vM S1 = vC S := b'.hV.symm.trans (f.V (by decide))
    have q := pX12_worth (S := S1) hV2 b'.dnM b.cnt b'.rnM b.rn5 b'.wkM b.wk1 b.wk6 x y
    rw [b'.rnM, b'.wkM] at q
    exact Rt.x q
theorem bo_gained {S : k_S} (h : RRx S) (x : Int32) : Both MX11_gained MX12_gained [.int x] S := by
  have h0 := h
  obtain ⟨wk, rn, dn, tp, T0, T1, T2, lo, tn, nd, nu, kn, ra, h⟩ := h
  have b := h.b1
  refine both_x (v := .int (aGai (vC S) dn (nI rn) x)) (dc := 5) (dm := 4) h0 (by decide) (by decide) ?_ ?_
  · have q := pX11_gained (S := S) rfl b.dnC b.cnt b.pln b.rnC b.rn5 x
    rw [b.rnC] at q
    exact Rt.x q
  · intro S1 f
    have b' := b.fr f (by decide) (by decide) (by decide)
    have h' := h.fr f
    have hV2 : vM S1 = vC S := b'.hV.symm.trans (f.V (by decide))
    have q := pX12_gained (S := S1) hV2 b'.dnM b.cnt b.pln b.rst b'.rnM b.rn5 x
    rw [b'.rnM] at q
    exact Rt.x q
theorem bo_led {S : k_S} (h : RRx S) (x : Int32) : Both MX11_led MX12_led [.int x] S := by
  have h0 := h
  obtain ⟨wk, rn, dn, tp, T0, T1, T2, lo, tn, nd, nu, kn, ra, h⟩ := h
  have b := h.b1
  refine both_x (v := .int (aLed (vC S) (nI rn) x)) (dc := 4) (dm := 3) h0 (by decide) (by decide) ?_ ?_
  · have q := pX11_led (S := S) rfl b.pln b.rnC b.rn5 x
    rw [b.rnC] at q
    exact Rt.x q
  · intro S1 f
    have b' := b.fr f (by decide) (by decide) (by decide)
    have h' := h.fr f
    have hV2 : vM S1 = vC S := b'.hV.symm.trans (f.V (by decide))
    have q := pX12_led (S := S1) hV2 b.pln b'.rnM b.rn5 x
    rw [b'.rnM] at q
    exact Rt.x q
theorem bo_cold {S : k_S} (h : RRx S) (x y : Int32) : Both MX11_cold MX12_cold [.int x, .int y] S := by
  have h0 := h
  obtain ⟨wk, rn, dn, tp, T0, T1, T2, lo, tn, nd, nu, kn, ra, h⟩ := h
  have b := h.b1
  refine both_x (v := .int (aCold (vC S) dn (nI rn) x y)) (dc := 4) (dm := 3) h0 (by decide) (by decide) ?_ ?_
  · have q := pX11_cold (S := S) rfl b.dnC b.cnt b.pln b.rnC b.rn5 x y
    rw [b.rnC] at q
    exact Rt.x q
  · intro S1 f
    have b' := b.fr f (by decide) (by decide) (by decide)
    have h' := h.fr f
    have hV2 : vM S1 = vC S := b'.hV.symm.trans (f.V (by decide))
    have q := pX12_cold (S := S1) hV2 b'.dnM b.cnt b.pln b.rst b'.rnM b.rn5 x y
    rw [b'.rnM] at q
    exact Rt.x q
theorem bo_taper {S : k_S} (h : RRx S) (x y : Int32) : Both MX11_taper MX12_taper [.int x, .int y] S := by
  have h0 := h
  obtain ⟨wk, rn, dn, tp, T0, T1, T2, lo, tn, nd, nu, kn, ra, h⟩ := h
  have b := h.b1
  refine both_x (v := .int (aTap (vC S) dn (nI rn) x y)) (dc := 4) (dm := 3) h0 (by decide) (by decide) ?_ ?_
  · have q := pX11_taper (S := S) rfl b.dnC b.cnt b.pln b.rnC b.rn5 x y
    rw [b.rnC] at q
    exact Rt.x q
  · intro S1 f
    have b' := b.fr f (by decide) (by decide) (by decide)
    have h' := h.fr f
    have hV2 : vM S1 = vC S := b'.hV.symm.trans (f.V (by decide))
    have q := pX12_taper (S := S1) hV2 b'.dnM b.cnt b.pln b.rst b'.rnM b.rn5 x y
    rw [b'.rnM] at q
    exact Rt.x q
theorem bo_alike {S : k_S} (h : RRx S) (x : Int32) : Both MX11_alike MX12_alike [.int x] S := by
  have h0 := h
  obtain ⟨wk, rn, dn, tp, T0, T1, T2, lo, tn, nd, nu, kn, ra, h⟩ := h
  have b := h.b1
  refine both_x (v := .int (aAlk (vC S) (nI rn) x)) (dc := 4) (dm := 3) h0 (by decide) (by decide) ?_ ?_
  · have q := pX11_alike (S := S) rfl b.pln b.rnC b.rn5 x
    rw [b.rnC] at q
    exact Rt.x q
  · intro S1 f
    have b' := b.fr f (by decide) (by decide) (by decide)
    have h' := h.fr f
    have hV2 : vM S1 = vC S := b'.hV.symm.trans (f.V (by decide))
    have q := pX12_alike (S := S1) hV2 b.pln b'.rnM b.rn5 x
    rw [b'.rnM] at q
    exact Rt.x q
theorem bo_pays {S : k_S} (h : RRx S) (x : Int32) : Both MX11_pays MX12_pays [.int x] S := by
  have h0 := h
  obtain ⟨wk, rn, dn, tp, T0, T1, T2, lo, tn, nd, nu, kn, ra, h⟩ := h
  have b := h.b1
  refine both_x (v := .int (aPay (vC S) dn wk (nI rn) x)) (dc := 5) (dm := 4) h0 (by decide) (by decide) ?_ ?_
  · have q := pX11_pays (S := S) rfl b.dnC b.cnt b.wkC b.wk1 b.wk6 b.rnC b.rn5 x
    rw [b.rnC] at q
    exact Rt.x q
  · intro S1 f
    have b' := b.fr f (by decide) (by decide) (by decide)
    have h' := h.fr f
    have hV2 : vM S1 = vC S := b'.hV.symm.trans (f.V (by decide))
    have q := pX12_pays (S := S1) hV2 b'.dnM b.cnt b'.wkM b.wk1 b.wk6 b'.rnM b.rn5 x
    rw [b'.rnM] at q
    exact Rx.x q (by decide) (by decide) (by decide)
theorem bo_judge {S : k_S} (h : RRx S) (x : Int32) : Both MX11_judge MX12_judge [.int x] S := by
  have h0 := h
  obtain ⟨wk, rn, dn, tp, T0, T1, T2, lo, tn, nd, nu, kn, ra, h⟩ := h
  have b := h.b1
  refine both_x (v := .int (aJdg (vC S) dn T1 (nI rn) x)) (dc := 5) (dm := 4) h0 (by decide) (by decide) ?_ ?_
  · have q := pX11_judge (S := S) rfl b.dnC b.cnt b.pln b.rnC b.rn5 h.b3.c1 x
    rw [b.rnC] at q
    exact Rx.x q (by decide) (by decide) (by decide)
  · intro S1 f
    have b' := b.fr f (by decide) (by decide) (by decide)
    have h' := h.fr f
    have hV2 : vM S1 = vC S := b'.hV.symm.trans (f.V (by decide))
    have q := pX12_judge (S := S1) hV2 b'.dnM b.cnt b.pln b'.rnM b.rn5 h'.b3.m1 x
    rw [b'.rnM] at q
    exact Rx.x q (by decide) (by decide) (by decide)
theorem bo_risk {S : k_S} (h : RRx S) (x w : Int32) : Both MX11_risk MX12_risk [.int x, .int w] S := by
  have h0 := h
  obtain ⟨wk, rn, dn, tp, T0, T1, T2, lo, tn, nd, nu, kn, ra, h⟩ := h
  have b := h.b1
  refine both_x (v := .int (aRsk (vC S) dn T0 (nI rn) x w)) (dc := 5) (dm := 6) h0 (by decide) (by decide) ?_ ?_
  · have q := pX11_risk (S := S) rfl b.dnC b.cnt b.pln b.rnC b.rn5 h.b3.c0 x w
    rw [b.rnC] at q
    exact Rx.x q (by decide) (by decide) (by decide)
  · intro S1 f
    have b' := b.fr f (by decide) (by decide) (by decide)
    have h' := h.fr f
    have hV2 : vM S1 = vC S := b'.hV.symm.trans (f.V (by decide))
    have q := pX12_risk (S := S1) hV2 b'.dnM b.cnt b.pln b'.rnM b.rn5 h'.b3.m0 x w
    rw [b'.rnM] at q
    exact Rx.x q (by decide) (by decide) (by decide)
theorem bo_trace {S : k_S} (h : RRx S) (x : Int32) : Both MX11_trace MX12_trace [.int x] S := by
  have h0 := h
  obtain ⟨wk, rn, dn, tp, T0, T1, T2, lo, tn, nd, nu, kn, ra, h⟩ := h
  have b := h.b1
  refine both_x (v := .int (ranV S x)) (dc := 2) (dm := 1) h0 (by decide) (by decide) ?_ ?_
  · have q := pX11_trace (S := S) x
    exact Rt.x q
  · intro S1 f
    have b' := b.fr f (by decide) (by decide) (by decide)
    have h' := h.fr f
    have hV2 : vM S1 = vC S := b'.hV.symm.trans (f.V (by decide))
    have q := pX12_trace (S := S1) h'.b7.raM h'.b7.ra30 x
    have e : mTrc S1 x = ranV S x := by
      rw [mTrc, ranV, h'.b7.raM, h.b7.raC, ← h'.b7.trc, f.2.1 6 (by decide)]
    rw [e] at q
    exact Rt.x q
theorem aNum_eq {S S1 : k_S} {wk rn dn tp : Nat} {T0 T1 T2 : List Int32} {lo tn nd nu kn ra : Nat} (h : RR S wk rn dn tp T0 T1 T2 lo tn nd nu kn ra) (f : Frm scI scA scJ S S1) (x : Int32) : aMNum S1 x = aNum S x := by
  have h' := h.fr f
  have e : S1.2.1 61 = S.2.1 25 := (congrFun h'.b1.hV 6).symm.trans (f.2.1 25 (by decide))
  rw [aMNum, aNum, h'.b1.wkM, h.b1.wkC, h'.b1.rnM, h.b1.rnC, e, h'.b1.dnM, h.b1.dnC, h'.b2.tpM, h.b2.tpC, h'.b5.tsM.1, h.b5.tsC.1, h'.b6.ndM, h.b6.ndC, h'.b7.kdM.1, h.b7.kdC.1, h'.b7.raM, h.b7.raC]
theorem bo_count {S : k_S} (h : RRx S) (x : Int32) : Both MX11_count MX12_count [.int x] S := by
  have h0 := h
  obtain ⟨wk, rn, dn, tp, T0, T1, T2, lo, tn, nd, nu, kn, ra, h⟩ := h
  obtain ⟨du, hdu, hu⟩ := pX11_count (S := S) x
  refine both_x (v := .int (aNum S x)) (dc := du) (dm := 1) h0 (by omega) (by decide) (Rt.x hu) ?_
  intro S1 f
  have h' := h.fr f
  have q := pX12_count (S := S1) (by rw [← h'.b1.hV]; exact h'.b1.pln) x
  rw [aNum_eq h f] at q
  exact Rt.x q
