theorem hV_of {S : k_S} (h0 : S.2.1 17 = S.2.1 53) (h1 : S.2.1 18 = S.2.1 54) (h2 : S.2.1 19 = S.2.1 55) (h3 : S.2.1 21 = S.2.1 58) (h4 : S.2.1 22 = S.2.1 59) (h5 : S.2.1 23 = S.2.1 60) (h6 : S.2.1 25 = S.2.1 61) (h7 : S.2.1 27 = S.2.1 62) (h8 : S.2.1 28 = S.2.1 63) : vC S = vM S := by
  funext k
  match k with
  | 0 => exact h0
  | 1 => exact h1
  | 2 => exact h2
  | 3 => exact h3
  | 4 => exact h4
  | 5 => exact h5
  | 6 => exact h6
  | 7 => exact h7
  | n + 8 => exact h8
theorem hV_a {S : k_S} (h : vC S = vM S) : S.2.1 17 = S.2.1 53 ∧ S.2.1 18 = S.2.1 54 ∧ S.2.1 19 = S.2.1 55 ∧ S.2.1 21 = S.2.1 58 ∧ S.2.1 22 = S.2.1 59 ∧ S.2.1 23 = S.2.1 60 ∧ S.2.1 25 = S.2.1 61 ∧ S.2.1 27 = S.2.1 62 ∧ S.2.1 28 = S.2.1 63 := ⟨congrFun h 0, congrFun h 1, congrFun h 2, congrFun h 3, congrFun h 4, congrFun h 5, congrFun h 6, congrFun h 7, congrFun h 8⟩
theorem both_0 {Mc Mm : k_M} {args : List Value} {S : k_S} {dc dm : Nat} {v : Value} (h : RRx S) (hdc : dc ≤ 90) (hdm : dm ≤ 90) (hc : Sp dc 0 0 Mc (.ref 0 :: args) (hp S) (Rt (some v) (hp S))) (hm : Sp dm 0 0 Mm (.ref 52 :: args) (hp S) (Rt (some v) (hp S))) (hv : vOk Mc.2.2.2 v := by exact True.intro) : Both Mc Mm args S := both_t hdc hdm hc hm h hv
theorem bo_lost {S : k_S} (h : RRx S) (x : Int32) : Both MX11_lost MX12_lost [.int x] S := by
  have h0 := h
  obtain ⟨wk, rn, dn, tp, T0, T1, T2, lo, tn, nd, nu, kn, ra, h⟩ := h
  have b := h.b1
  have qc := pX11_lost (S := S) x
  rw [h.b4.loC] at qc
  by_cases c : pIn x (nI 1) (nI 60)
  · rw [sLost, if_pos c] at qc
    have qm := pX12_lost (S := si S 1907 x) x
    rw [show (si S 1907 x).1 2618 = nI lo from h.b4.loM, mLos, if_pos c] at qm
    refine both_t (dc := 1) (dm := 1) (by decide) (by decide) qc qm ?_
    have f : Frm [1907, 2618] [] [] S (si (si S 1907 x) 2618 x) := ((Frm.rf S).si (by decide) _).si (by decide) _
    obtain ⟨lo2, hl, rfl⟩ := k_rngle (Int32.le_trans (by decide) c.1) c.2 (by decide)
    have h1 : 1 ≤ lo2 := by have h8 := Int32.le_iff_toInt_le.mp c.1; rw [nI_toInt (by omega), nI_toInt (by omega)] at h8; omega
    exact ⟨wk, rn, dn, tp, T0, T1, T2, lo2, tn, nd, nu, kn, ra, ⟨h.b1.fr f (by decide) (by decide) (by decide), h.b2.fr f (by decide) (by decide), h.b3.fr f (by decide) (by decide), ⟨rfl, rfl, h1, hl⟩, h.b5.fr f (by decide) (by decide), h.b6.fr f (by decide) (by decide), h.b7.fr f (by decide) (by decide), h.b8.fr f (by decide) (by decide)⟩⟩
  · rw [sLost, if_neg c] at qc
    have qm := pX12_lost (S := S) x
    rw [h.b4.loM, mLos, if_neg c] at qm
    exact both_0 (dc := 1) (dm := 1) h0 (by decide) (by decide) qc qm
theorem bo_test {S : k_S} (h : RRx S) (x y : Int32) : Both MX11_test MX12_test [.int x, .int y] S := by
  have h0 := h
  obtain ⟨wk, rn, dn, tp, T0, T1, T2, lo, tn, nd, nu, kn, ra, h⟩ := h
  have b := h.b1
  have qc := pX11_test (S := S) h.b5.tsC.1 h.b5.tsC.2.1 x y
  by_cases c : pTst x y
  · by_cases c2 : tn = 10
    · rw [sTst, if_pos c, if_pos c2] at qc
      have qm := pX12_test (S := S) h.b5.tsM.1 h.b5.tsM.2.1 x y
      rw [mTst, if_pos c, if_pos c2] at qm
      exact both_0 (dc := 2) (dm := 2) h0 (by decide) (by decide) qc qm
    · rw [sTst, if_pos c, if_neg c2] at qc
      have qm := pX12_test (S := tsU S tn x y) (tn := tn) h.b5.tsM.1 h.b5.tsM.2.1 x y
      rw [mTst, if_pos c, if_neg c2] at qm
      refine both_t (dc := 2) (dm := 2) (by decide) (by decide) qc qm ?_
      obtain ⟨T, hT⟩ : ∃ T, si (sa (sa (tsU S tn x y) 67 (va_up ((tsU S tn x y).2.1 67) tn x)) 68 (va_up ((tsU S tn x y).2.1 68) tn y)) 2619 (nI (tn + 1)) = T := ⟨_, rfl⟩
      have f : Frm [14, 2619] [13, 14, 67, 68] [] S T := by rw [← hT]; exact ((((((Frm.rf S).sa (by decide) _).sa (by decide) _).si (by decide) _).sa (by decide) _).sa (by decide) _).si (by decide) _
      have e13 : T.2.1 13 = va_up (S.2.1 13) tn x := by rw [← hT]; rfl
      have e14 : T.2.1 14 = va_up (S.2.1 14) tn y := by rw [← hT]; rfl
      have e67 : T.2.1 67 = va_up (S.2.1 67) tn x := by rw [← hT]; rfl
      have e68 : T.2.1 68 = va_up (S.2.1 68) tn y := by rw [← hT]; rfl
      have i14 : T.1 14 = nI (tn + 1) := by rw [← hT]; rfl
      have i19 : T.1 2619 = nI (tn + 1) := by rw [← hT]; rfl
      rw [hT]
      have ht10 := h.b5.tsC.2.1
      obtain ⟨d, hd, rfl⟩ := pD_ex c.1
      have hrow : ∀ (f : Nat → Int32), (∀ i, i < tn → f i = nI (ix (f i)) ∧ ix (f i) < 120) → ∀ i, i < tn + 1 → va_up f tn (nI d) i = nI (ix (va_up f tn (nI d) i)) ∧ ix (va_up f tn (nI d) i) < 120 := by
        intro f hf i hi
        by_cases e : i = tn
        · subst e; rw [va_a1, ix_nI (by omega)]; exact ⟨rfl, hd⟩
        · rw [va_ne _ _ e]; exact hf i (by omega)
      have hb5 : B5 T (tn + 1) := by
        refine ⟨⟨i14, by omega, by rw [e13]; exact hrow _ h.b5.tsC.2.2⟩, ⟨i19, by omega, by rw [e67]; exact hrow _ h.b5.tsM.2.2⟩, by rw [e13, e67, h.b5.dys], by rw [e14, e68, h.b5.fnd], ?_⟩
        intro i hi
        rw [e14]
        by_cases e : i = tn
        · subst e; rw [va_a1]
          have q1 := Int32.le_iff_toInt_le.mp c.2.1
          have q2 := Int32.le_iff_toInt_le.mp c.2.2
          rw [nI_toInt (by omega)] at q2
          rw [show (-9999 : Int32).toInt = -9999 from by decide] at q1
          exact ⟨q1, q2⟩
        · rw [va_ne _ _ e]; exact h.b5.bnd i (by omega)
      exact ⟨wk, rn, dn, tp, T0, T1, T2, lo, tn + 1, nd, nu, kn, ra, ⟨h.b1.fr f (by decide) (by decide) (by decide), h.b2.fr f (by decide) (by decide), h.b3.fr f (by decide) (by decide), h.b4.fr f (by decide), hb5, h.b6.fr f (by decide) (by decide), h.b7.fr f (by decide) (by decide), h.b8.fr f (by decide) (by decide)⟩⟩
  · rw [sTst, if_neg c] at qc
    have qm := pX12_test (S := S) h.b5.tsM.1 h.b5.tsM.2.1 x y
    rw [mTst, if_neg c] at qm
    exact both_0 (dc := 2) (dm := 2) h0 (by decide) (by decide) qc qm
theorem ShR_kn {S : k_S} {kn kn2 : Nat} (h : B8 S kn) (hk : kn ≤ kn2) : B8 S kn2 := by
  intro j hj
  rcases h.shs j hj with q | ⟨p, hp1, q⟩ | q
  · exact Or.inl q
  · exact Or.inr (Or.inl ⟨p, by omega, q⟩)
  · exact Or.inr (Or.inr q)
theorem bo_body {S : k_S} (h : RRx S) (x : Int32) : Both MX11_body MX12_body [.int x] S := by
  have h0 := h
  obtain ⟨wk, rn, dn, tp, T0, T1, T2, lo, tn, nd, nu, kn, ra, h⟩ := h
  have b := h.b1
  have k50 := h.b7.kdC.2.1
  have qc := pX11_body (S := S) h.b7.kdC.1 k50 x
  by_cases c : pIn x (nI 0) (nI 7)
  · by_cases c2 : kn = 50
    · rw [sBod, if_pos c, bdU, if_pos c2] at qc
      have qm := pX12_body (S := S) h.b7.kdM.1 k50 x
      rw [mBod, if_pos c, if_pos c2] at qm
      exact both_0 (dc := 2) (dm := 1) h0 (by decide) (by decide) qc qm
    · rw [sBod, if_pos c, bdU, if_neg c2] at qc
      obtain ⟨S1, hS1⟩ : ∃ S1, si (sa S 5 (va_up (S.2.1 5) kn x)) 201 (nI (kn + 1)) = S1 := ⟨_, rfl⟩
      have f1 : Frm [201] [5] [] S S1 := by rw [← hS1]; exact ((Frm.rf S).sa (by decide) _).si (by decide) _
      have e5a : S1.2.1 5 = va_up (S.2.1 5) kn x := by rw [← hS1]; rfl
      have i201a : S1.1 201 = nI (kn + 1) := by rw [← hS1]; rfl
      rw [hS1] at qc
      have qm := pX12_body (S := S1) ((f1.1 2627 (by decide)).trans h.b7.kdM.1) k50 x
      rw [mBod, if_pos c, if_neg c2] at qm
      refine both_t (dc := 2) (dm := 1) (by decide) (by decide) qc qm ?_
      obtain ⟨T, hT⟩ : ∃ T, si (sa S1 72 (va_up (S1.2.1 72) kn x)) 2627 (nI (kn + 1)) = T := ⟨_, rfl⟩
      have f2 : Frm [2627] [72] [] S1 T := by rw [← hT]; exact ((Frm.rf S1).sa (by decide) _).si (by decide) _
      have f : Frm [201, 2627] [5, 72] [] S T := (f1.wk (by decide) (by decide) (by decide)).tr (f2.wk (by decide) (by decide) (by decide))
      have e5 : T.2.1 5 = va_up (S.2.1 5) kn x := (f2.2.1 5 (by decide)).trans e5a
      have e72 : T.2.1 72 = va_up (S.2.1 72) kn x := by rw [← hT, ← f1.2.1 72 (by decide)]; rfl
      have i201 : T.1 201 = nI (kn + 1) := (f2.1 201 (by decide)).trans i201a
      have i2627 : T.1 2627 = nI (kn + 1) := by rw [← hT]; rfl
      rw [hT]
      obtain ⟨K, hK, rfl⟩ := k_rngle c.1 c.2 (by decide)
      have hrow : ∀ (f : Nat → Int32), (∀ j, j < kn → ∃ K, K < 8 ∧ f j = nI K) → ∀ j, j < kn + 1 → ∃ K2, K2 < 8 ∧ va_up f kn (nI K) j = nI K2 := by
        intro f hf j hj
        by_cases e : j = kn
        · subst e; rw [va_a1]; exact ⟨K, by omega, rfl⟩
        · rw [va_ne _ _ e]; exact hf j (by omega)
      have hb7 : B7 T (kn + 1) ra := ⟨⟨i201, by omega, by rw [e5]; exact hrow _ h.b7.kdC.2.2⟩, ⟨i2627, by omega, by rw [e72]; exact hrow _ h.b7.kdM.2.2⟩, by rw [e5, e72, h.b7.kds], (f.1 203 (by decide)).trans h.b7.raC, (f.1 2629 (by decide)).trans h.b7.raM, h.b7.ra30, by rw [f.2.1 6 (by decide), f.2.1 73 (by decide)]; exact h.b7.trc⟩
      exact ⟨wk, rn, dn, tp, T0, T1, T2, lo, tn, nd, nu, kn + 1, ra, ⟨h.b1.fr f (by decide) (by decide) (by decide), h.b2.fr f (by decide) (by decide), h.b3.fr f (by decide) (by decide), h.b4.fr f (by decide), h.b5.fr f (by decide) (by decide), h.b6.fr f (by decide) (by decide), hb7, ShR_kn (h.b8.fr f (by decide) (by decide)) (by omega)⟩⟩
  · rw [sBod, if_neg c] at qc
    have qm := pX12_body (S := S) h.b7.kdM.1 k50 x
    rw [mBod, if_neg c] at qm
    exact both_0 (dc := 2) (dm := 1) h0 (by decide) (by decide) qc qm
theorem bo_forget {S : k_S} (h : RRx S) : Both MX11_forget MX12_forget [] S := by
  obtain ⟨wk, rn, dn, tp, T0, T1, T2, lo, tn, nd, nu, kn, ra, h⟩ := h
  have b := h.b1
  have qc := pX11_forget (S := S)
  rw [b.dnC] at qc
  have qm := pX12_forget (S := si S 1302 (nI 0))
  rw [show (si S 1302 (nI 0)).1 2611 = nI dn from b.dnM] at qm
  refine both_t (dc := 1) (dm := 0) (by decide) (by decide) qc qm ?_
  have f : Frm [1302, 2611] [] [] S (si (si S 1302 (nI 0)) 2611 (nI 0)) := ((Frm.rf S).si (by decide) _).si (by decide) _
  have hb1 : B1 (si (si S 1302 (nI 0)) 2611 (nI 0)) wk rn 0 := ⟨b.hV, b.wkC, b.wkM, b.wk1, b.wk6, b.rnC, b.rnM, b.rn5, rfl, rfl, ⟨by omega, fun c hc => absurd hc (by omega)⟩, b.pln, b.rst, b.val⟩
  exact ⟨wk, rn, 0, tp, T0, T1, T2, lo, tn, nd, nu, kn, ra, ⟨hb1, h.b2.fr f (by decide) (by decide), h.b3.fr f (by decide) (by decide), h.b4.fr f (by decide), h.b5.fr f (by decide) (by decide), h.b6.fr f (by decide) (by decide), h.b7.fr f (by decide) (by decide), h.b8.fr f (by decide) (by decide)⟩⟩
theorem bo_counts {S : k_S} (h : RRx S) (x w : Int32) : Both MX11_counts MX12_counts [.int x, .int w] S := by
  have h0 := h
  obtain ⟨wk, rn, dn, tp, T0, T1, T2, lo, tn, nd, nu, kn, ra, h⟩ := h
  have b := h.b1
  have d4 := b.cnt.1
  have e27 : S.2.1 27 = S.2.1 62 := (hV_a b.hV).2.2.2.2.2.2.2.1
  have e28 : S.2.1 28 = S.2.1 63 := (hV_a b.hV).2.2.2.2.2.2.2.2
  have qc := pX11_counts (S := S) b.dnC d4 x w
  by_cases c : pCnt (S.2.1 27) dn x w
  · by_cases c2 : dn = 4
    · rw [sCnt, if_pos c, rcU, if_pos c2] at qc
      have qm := pX12_counts (S := S) b.dnM d4 x w
      rw [mCntS, ← e27, if_pos c, if_pos c2] at qm
      exact both_0 (dc := 3) (dm := 2) h0 (by decide) (by decide) qc qm
    · rw [sCnt, if_pos c, rcU, if_neg c2] at qc
      obtain ⟨S1, hS1⟩ : ∃ S1, rcAdd S dn x w = S1 := ⟨_, rfl⟩
      have f1 : Frm [1302] [27, 28] [] S S1 := by rw [← hS1]; exact (((Frm.rf S).sa (by decide) _).sa (by decide) _).si (by decide) _
      have a27 : S1.2.1 27 = va_up (S.2.1 27) dn x := by rw [← hS1]; rfl
      have a28 : S1.2.1 28 = va_up (S.2.1 28) dn w := by rw [← hS1]; rfl
      have a1302 : S1.1 1302 = nI (dn + 1) := by rw [← hS1]; rfl
      rw [hS1] at qc
      have qm := pX12_counts (S := S1) ((f1.1 2611 (by decide)).trans b.dnM) d4 x w
      rw [mCntS, f1.2.1 62 (by decide), f1.2.1 63 (by decide), ← e27, ← e28, if_pos c, if_neg c2] at qm
      refine both_t (dc := 3) (dm := 2) (by decide) (by decide) qc qm ?_
      obtain ⟨T, hT⟩ : ∃ T, si (sa (sa S1 62 (va_up (S.2.1 27) dn x)) 63 (va_up (S.2.1 28) dn w)) 2611 (nI (dn + 1)) = T := ⟨_, rfl⟩
      have f2 : Frm [2611] [62, 63] [] S1 T := by rw [← hT]; exact (((Frm.rf S1).sa (by decide) _).sa (by decide) _).si (by decide) _
      have f : Frm [1302, 2611] [27, 28, 62, 63] [] S T := (f1.wk (by decide) (by decide) (by decide)).tr (f2.wk (by decide) (by decide) (by decide))
      have t27 : T.2.1 27 = va_up (S.2.1 27) dn x := (f2.2.1 27 (by decide)).trans a27
      have t28 : T.2.1 28 = va_up (S.2.1 28) dn w := (f2.2.1 28 (by decide)).trans a28
      have t62 : T.2.1 62 = va_up (S.2.1 27) dn x := by rw [← hT]; rfl
      have t63 : T.2.1 63 = va_up (S.2.1 28) dn w := by rw [← hT]; rfl
      have g1 : T.1 1302 = nI (dn + 1) := (f2.1 1302 (by decide)).trans a1302
      have g2 : T.1 2611 = nI (dn + 1) := by rw [← hT]; rfl
      rw [hT]
      obtain ⟨d, hd, rfl⟩ := pD_ex c.1
      obtain ⟨r0, r1, r2, r3, r4, r5, r6, _, _⟩ := hV_a b.hV
      have k_ := fun a ha => f.2.1 a ha
      have hb1 : B1 T wk rn (dn + 1) := by
        refine ⟨hV_of (by rw [k_ 17 (by decide), k_ 53 (by decide)]; exact r0) (by rw [k_ 18 (by decide), k_ 54 (by decide)]; exact r1) (by rw [k_ 19 (by decide), k_ 55 (by decide)]; exact r2) (by rw [k_ 21 (by decide), k_ 58 (by decide)]; exact r3) (by rw [k_ 22 (by decide), k_ 59 (by decide)]; exact r4) (by rw [k_ 23 (by decide), k_ 60 (by decide)]; exact r5) (by rw [k_ 25 (by decide), k_ 61 (by decide)]; exact r6) (by rw [t27, t62]) (by rw [t28, t63]), (f.1 803 (by decide)).trans b.wkC, (f.1 2600 (by decide)).trans b.wkM, b.wk1, b.wk6, (f.1 1003 (by decide)).trans b.rnC, (f.1 2604 (by decide)).trans b.rnM, b.rn5, g1, g2, ⟨by omega, ?_⟩, ?_, ?_, ?_⟩
        · intro c9 hc9
          show T.2.1 27 c9 = nI (ix (T.2.1 27 c9)) ∧ ix (T.2.1 27 c9) < 120
          rw [t27]
          by_cases e : c9 = dn
          · subst e; rw [va_a1, ix_nI (by omega)]; exact ⟨rfl, hd⟩
          · rw [va_ne _ _ e]; exact b.cnt.2 c9 (by omega)
        · intro d2 hd2
          show T.2.1 25 d2 = nI (ix (T.2.1 25 d2)) ∧ ix (T.2.1 25 d2) < 6
          rw [k_ 25 (by decide)]; exact b.pln d2 hd2
        · show T.2.1 17 0 = nI 0 ∧ T.2.1 18 0 = nI 0
          rw [k_ 17 (by decide), k_ 18 (by decide)]; exact b.rst
        · refine ⟨?_, ?_, ?_⟩
          · intro w9 hw9
            show ∃ a b, a ≤ 99 ∧ b ≤ 99 ∧ T.2.1 17 w9 = nI a ∧ T.2.1 18 w9 = nI b
            rw [k_ 17 (by decide), k_ 18 (by decide)]; exact b.val.1 w9 hw9
          · intro r9 hr9
            show ∃ g, g ≤ 1500 ∧ T.2.1 21 r9 = nI g
            rw [k_ 21 (by decide)]; exact b.val.2.1 r9 hr9
          · intro i hi
            show ∃ a b, a ≤ 1000 ∧ b ≤ 1000 ∧ T.2.1 22 i = nI a ∧ T.2.1 23 i = nI b
            rw [k_ 22 (by decide), k_ 23 (by decide)]; exact b.val.2.2 i hi
      exact ⟨wk, rn, dn + 1, tp, T0, T1, T2, lo, tn, nd, nu, kn, ra, ⟨hb1, h.b2.fr f (by decide) (by decide), h.b3.fr f (by decide) (by decide), h.b4.fr f (by decide), h.b5.fr f (by decide) (by decide), h.b6.fr f (by decide) (by decide), h.b7.fr f (by decide) (by decide), h.b8.fr f (by decide) (by decide)⟩⟩
  · rw [sCnt, if_neg c] at qc
    have qm := pX12_counts (S := S) b.dnM d4 x w
    rw [mCntS, ← e27, if_neg c] at qm
    exact both_0 (dc := 3) (dm := 2) h0 (by decide) (by decide) qc qm
