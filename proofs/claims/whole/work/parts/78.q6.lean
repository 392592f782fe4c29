/-- the tape's row, so many bytes laid on it -/
def fdR (f : Nat → Int32) (tp : Nat) (v : Int32) : Nat → Nat → Int32
  | 0 => f
  | j + 1 => va_up (fdR f tp v j) (tp + j) (fdv v j)
theorem fdT_r (S : k_S) (tp : Nat) (v : Int32) : ∀ j, (fdT S tp v j).2.1 12 = fdR (S.2.1 12) tp v j
  | 0 => rfl
  | j + 1 => by
    show va_up ((fdT S tp v j).2.1 12) (tp + j) (fdv v j) = _
    rw [fdT_r S tp v j]; rfl
theorem mfdT_r (S : k_S) (tp : Nat) (v : Int32) : ∀ j, (mfdT S tp v j).2.1 64 = fdR (S.2.1 64) tp v j
  | 0 => rfl
  | j + 1 => by
    show va_up ((mfdT S tp v j).2.1 64) (tp + j) (fdv v j) = _
    rw [mfdT_r S tp v j]; rfl
theorem fdT_f (S : k_S) (tp : Nat) (v : Int32) : ∀ j, Frm [11] [12] [] S (fdT S tp v j)
  | 0 => Frm.rf S
  | j + 1 => ((fdT_f S tp v j).sa (by decide) _).si (by decide) _
theorem mfdT_f (S : k_S) (tp : Nat) (v : Int32) : ∀ j, Frm [2615] [64] [] S (mfdT S tp v j)
  | 0 => Frm.rf S
  | j + 1 => ((mfdT_f S tp v j).sa (by decide) _).si (by decide) _
theorem bo_feed {S : k_S} (h : RRx S) (x v : Int32) : Both MX11_feed MX12_feed [.int x, .int v] S := by
  have h0 := h
  obtain ⟨wk, rn, dn, tp, T0, T1, T2, lo, tn, nd, nu, kn, ra, h⟩ := h
  have b := h.b1
  have qc := pX11_feed (S := S) h.b2.tpC h.b2.tp120 x v
  by_cases c : pIn x (nI 1) (nI 4) ∧ ¬ 120 < tp + ix x
  · rw [sFed, if_pos c.1, if_neg c.2] at qc
    have f1 := fdT_f S tp v (ix x)
    have qm := pX12_feed (S := fdT S tp v (ix x)) ((f1.1 2615 (by decide)).trans h.b2.tpM) h.b2.tp120 x v
    rw [mFed, if_pos c.1, if_neg c.2] at qm
    refine both_t (dc := 1) (dm := 1) (by decide) (by decide) qc qm ?_
    have f2 := mfdT_f (fdT S tp v (ix x)) tp v (ix x)
    have i1 := fdT_11 v h.b2.tpC (ix x)
    have i2 := mfdT_15 (S := fdT S tp v (ix x)) v ((f1.1 2615 (by decide)).trans h.b2.tpM) (ix x)
    have r1 := fdT_r S tp v (ix x)
    have r2 := mfdT_r (fdT S tp v (ix x)) tp v (ix x)
    rw [f1.2.1 64 (by decide), ← h.b2.tape, ← r1] at r2
    obtain ⟨T, hT⟩ : ∃ T, mfdT (fdT S tp v (ix x)) tp v (ix x) = T := ⟨_, rfl⟩
    rw [hT] at f2 i2 r2 ⊢
    have f : Frm [11, 2615] [12, 64] [] S T := (f1.wk (by decide) (by decide) (by decide)).tr (f2.wk (by decide) (by decide) (by decide))
    have c2 := c.2
    exact ⟨wk, rn, dn, tp + ix x, T0, T1, T2, lo, tn, nd, nu, kn, ra, ⟨h.b1.fr f (by decide) (by decide) (by decide), ⟨(f2.2.1 12 (by decide)).trans r2.symm, (f2.1 11 (by decide)).trans i1, i2, by omega⟩, h.b3.fr f (by decide) (by decide), h.b4.fr f (by decide), h.b5.fr f (by decide) (by decide), h.b6.fr f (by decide) (by decide), h.b7.fr f (by decide) (by decide), h.b8.fr f (by decide) (by decide)⟩⟩
  · have e1 : sFed S tp x v = S := by
      rw [sFed]
      by_cases c1 : pIn x (nI 1) (nI 4)
      · rw [if_pos c1, if_pos (Classical.not_not.mp (fun q => c ⟨c1, q⟩))]
      · rw [if_neg c1]
    have e2 : mFed S tp x v = S := by
      rw [mFed]
      by_cases c1 : pIn x (nI 1) (nI 4)
      · rw [if_pos c1, if_pos (Classical.not_not.mp (fun q => c ⟨c1, q⟩))]
      · rw [if_neg c1]
    rw [e1] at qc
    have qm := pX12_feed (S := S) h.b2.tpM h.b2.tp120 x v
    rw [e2] at qm
    exact both_0 (dc := 1) (dm := 1) h0 (by decide) (by decide) qc qm
/-- the trace's row -/
def trF : (Nat → Int32) → Nat → List Nat → Nat → Int32
  | f, _, [] => f
  | f, n, b :: r => trF (va_up f n (nI b)) (n + 1) r
theorem trc_r : ∀ (l : List Nat) (S : k_S) (n : Nat), (trc S n l).2.1 6 = trF (S.2.1 6) n l
  | [], S, n => rfl
  | b :: r, S, n => trc_r r (trc1 S n b) (n + 1)
theorem mtr_r : ∀ (l : List Nat) (S : k_S) (n : Nat), (mtr S n l).2.1 73 = trF (S.2.1 73) n l
  | [], S, n => rfl
  | b :: r, S, n => mtr_r r (mtr1 S n b) (n + 1)
theorem trc_f : ∀ (l : List Nat) (S : k_S) (n : Nat), Frm [203] [6] [] S (trc S n l)
  | [], S, n => Frm.rf S
  | b :: r, S, n => (((Frm.rf S).sa (by decide) _).si (by decide) _).tr (trc_f r (trc1 S n b) (n + 1))
theorem mtr_f : ∀ (l : List Nat) (S : k_S) (n : Nat), Frm [2629] [73] [] S (mtr S n l)
  | [], S, n => Frm.rf S
  | b :: r, S, n => (((Frm.rf S).sa (by decide) _).si (by decide) _).tr (mtr_f r (mtr1 S n b) (n + 1))
theorem acT_le {K s : Nat} (hK : K < 8) (hs : s < 4) : (acT K s).length < 2 ^ 30 := by
  have h : ∀ K : Fin 8, ∀ s : Fin 4, (acT K.1 s.1).length < 100 := by decide
  have := h ⟨K, hK⟩ ⟨s, hs⟩
  exact Nat.lt_trans this (by decide)
theorem bo_act {S : k_S} (h : RRx S) (p s x : Int32) : Both MX11_act MX12_act [.int p, .int s, .int x] S := by
  have h0 := h
  obtain ⟨wk, rn, dn, tp, T0, T1, T2, lo, tn, nd, nu, kn, ra, h⟩ := h
  have b := h.b1
  have qc := pX11_act (S := S) h.b7.kdC p s x
  rw [aAct] at qc
  by_cases c : pAct (nI kn) p s
  · obtain ⟨p, hp0, rfl⟩ := pW_ex c.1 rfl (by have := h.b7.kdC.2.1; omega)
    obtain ⟨s, hs, rfl⟩ := k_rngle c.2.1 c.2.2 (by decide)
    obtain ⟨K, hK, eK⟩ := h.b7.kdC.2.2 p hp0
    have k50 := h.b7.kdC.2.1
    rw [sAct, h.b7.kdC.1, if_pos c, if_pos c, ix_nI (by omega), ix_nI (by omega), eK, ix_nI (by omega)] at qc
    obtain ⟨S1, hS1⟩ : ∃ S1, acS S p K s = S1 := ⟨_, rfl⟩
    have f1 : Frm [203, 204, 205] [6] [] S S1 := by rw [← hS1]; exact ((((Frm.rf S).si (by decide) _).si (by decide) _).si (by decide) _).tr ((trc_f _ _ _).wk (by decide) (by decide) (by decide))
    have i1 : S1.1 203 = nI (0 + (acT K s).length) := by rw [← hS1]; exact tR rfl
    have r1 : S1.2.1 6 = trF (S.2.1 6) 0 (acT K s) := by rw [← hS1]; exact trc_r _ _ _
    rw [hS1] at qc
    have kd2 := h.b7.kdM
    have e5 : S1.2.1 72 = S.2.1 72 := f1.2.1 72 (by decide)
    have hk1 : mKdOk S1 kn := ⟨(f1.1 2627 (by decide)).trans kd2.1, kd2.2.1, by rw [e5]; exact kd2.2.2⟩
    have qm := pX12_act (S := S1) hk1 (nI p) (nI s) x
    rw [aMAct, mAct, hk1.1, if_pos c, if_pos c, ix_nI (by omega), ix_nI (by omega), e5, ← h.b7.kds, eK, ix_nI (by omega)] at qm
    refine both_t (dc := 17) (dm := 13) (by decide) (by decide) qc qm ?_
    obtain ⟨T, hT⟩ : ∃ T, mAcS S1 p K s = T := ⟨_, rfl⟩
    have f2 : Frm [2629, 2647] [73] [] S1 T := by rw [← hT]; exact (((Frm.rf S1).si (by decide) _).si (by decide) _).tr ((mtr_f _ _ _).wk (by decide) (by decide) (by decide))
    have i2 : T.1 2629 = nI (0 + (acT K s).length) := by rw [← hT]; exact mtr_R rfl
    have r2 : T.2.1 73 = trF (S1.2.1 73) 0 (acT K s) := by rw [← hT]; exact mtr_r _ _ _
    rw [hT]
    have f : Frm [203, 204, 205, 2629, 2647] [6, 73] [] S T := (f1.wk (by decide) (by decide) (by decide)).tr (f2.wk (by decide) (by decide) (by decide))
    have hl := acT_le (K := K) (s := s) hK (by omega)
    have g5 : T.2.1 5 = S.2.1 5 := f.2.1 5 (by decide)
    have g72 : T.2.1 72 = S.2.1 72 := f.2.1 72 (by decide)
    have h7' : B7 T kn (0 + (acT K s).length) := ⟨⟨(f.1 201 (by decide)).trans h.b7.kdC.1, k50, by rw [g5]; exact h.b7.kdC.2.2⟩, ⟨(f.1 2627 (by decide)).trans kd2.1, k50, by rw [g72]; exact kd2.2.2⟩, by rw [g5, g72]; exact h.b7.kds, (f2.1 203 (by decide)).trans i1, i2, by omega, by rw [f2.2.1 6 (by decide), r1, r2, f1.2.1 73 (by decide), h.b7.trc]⟩
    exact ⟨wk, rn, dn, tp, T0, T1, T2, lo, tn, nd, nu, kn, (0 + (acT K s).length), ⟨h.b1.fr f (by decide) (by decide) (by decide), h.b2.fr f (by decide) (by decide), h.b3.fr f (by decide) (by decide), h.b4.fr f (by decide), h.b5.fr f (by decide) (by decide), h.b6.fr f (by decide) (by decide), h7', h.b8.fr f (by decide) (by decide)⟩⟩
  · rw [sAct, h.b7.kdC.1, if_neg c, if_neg c] at qc
    have kd2 := h.b7.kdM
    have qm := pX12_act (S := si S 203 (nI 0)) (kn := kn) kd2 p s x
    rw [aMAct, mAct, show (si S 203 (nI 0)).1 2627 = nI kn from kd2.1, if_neg c, if_neg c] at qm
    refine both_t (dc := 17) (dm := 13) (by decide) (by decide) qc qm ?_
    have f : Frm [203, 2629] [] [] S (si (si S 203 (nI 0)) 2629 (nI 0)) := ((Frm.rf S).si (by decide) _).si (by decide) _
    have h7' : B7 (si (si S 203 (nI 0)) 2629 (nI 0)) kn 0 := ⟨h.b7.kdC, kd2, h.b7.kds, rfl, rfl, by decide, h.b7.trc⟩
    exact ⟨wk, rn, dn, tp, T0, T1, T2, lo, tn, nd, nu, kn, 0, ⟨h.b1.fr f (by decide) (by decide) (by decide), h.b2.fr f (by decide) (by decide), h.b3.fr f (by decide) (by decide), h.b4.fr f (by decide), h.b5.fr f (by decide) (by decide), h.b6.fr f (by decide) (by decide), h7', h.b8.fr f (by decide) (by decide)⟩⟩
theorem bo_feel {S : k_S} (h : RRx S) (r x : Int32) : Both MX11_feel MX12_feel [.int r, .int x] S := by
  have h0 := h
  obtain ⟨wk, rn, dn, tp, T0, T1, T2, lo, tn, nd, nu, kn, ra, h⟩ := h
  have b := h.b1
  have qc := pX11_feel (S := S) (V := vC S) rfl b.dnC b.cnt b.pln b.rnC b.rn5 b.wkC b.wk1 b.wk6 h.b3.c2 r x
  rw [b.rnC, b.wkC] at qc
  refine ⟨5, 3, fun v S1 => v = .int (aFel (vC S) dn T2 (nI rn) (nI wk) r x) ∧ (pFel (nI rn) r x → S1.2.1 25 = felR (vC S) dn T2 (nI wk) r x ∧ S1.1 1656 = nI 0 ∧ S1.1 1657 = nI 0 ∧ Frm [1656, 1657, 1953, 2103, 2253] [25, 41, 44, 47, 48, 49, 50, 51] [] S S1) ∧ (¬ pFel (nI rn) r x → S1 = S), by decide, by decide, qc.mono ?_, ?_⟩
  · rintro o h' ⟨rfl, S1, rfl, q⟩
    exact ⟨_, S1, rfl, rfl, True.intro, rfl, q⟩
  rintro v S1 ⟨rfl, q1, q2⟩
  by_cases c : pFel (nI rn) r x
  · obtain ⟨e25, i1, i2, f1⟩ := q1 c
    have eM : vM S1 = vM S := f1.M (by decide)
    have qm := pX12_feel (S := S1) (V := vC S) (by rw [eM]; exact b.hV.symm) ((f1.1 2611 (by decide)).trans b.dnM) b.cnt b.pln ((f1.1 2604 (by decide)).trans b.rnM) b.rn5 ((f1.1 2600 (by decide)).trans b.wkM) b.wk1 b.wk6 (h.b3.m2.fr f1 (by decide) (by decide)) r x
    rw [(f1.1 2604 (by decide)).trans b.rnM, (f1.1 2600 (by decide)).trans b.wkM] at qm
    refine qm.mono ?_
    rintro o h' ⟨rfl, T, rfl, q⟩
    obtain ⟨e61, i3, i4, f2⟩ := q.1 c
    refine ⟨T, rfl, rfl, ?_⟩
    have f : Frm [1656, 1657, 1953, 2103, 2253, 2625, 2626] [25, 41, 44, 47, 48, 49, 50, 51, 61, 81, 82] [] S T := (f1.wk (by decide) (by decide) (by decide)).tr (f2.wk (by decide) (by decide) (by decide))
    have hb1 : B1 T wk rn dn := by
      refine b.pl f (by decide) (by decide) ((f2.2.1 25 (by decide)).trans e25) e61 (fun d hd => ?_)
      have q := flP_ok (V := vC S) (dn := dn) (r := ix r) (T := T2) (kw := nI wk) (o := rrN x) (wk := wk) (p := vC S 6) rfl b.wk6 b.pln (ddN x + 1 - rrN x) d hd
      rw [vP_6] at q
      exact ⟨_, q.2, q.1⟩
    have h6' : B6 T 0 0 := ⟨(f2.1 1656 (by decide)).trans i1, (f2.1 1657 (by decide)).trans i2, i3, i4, by decide, by rw [f.2.1 36 (by decide), f.2.1 70 (by decide)]; exact h.b6.was, by rw [f.2.1 37 (by decide), f.2.1 71 (by decide)]; exact h.b6.now, fun k hk => absurd hk (by omega)⟩
    exact ⟨wk, rn, dn, tp, T0, T1, T2, lo, tn, 0, 0, kn, ra, ⟨hb1, h.b2.fr f (by decide) (by decide), h.b3.fr f (by decide) (by decide), h.b4.fr f (by decide), h.b5.fr f (by decide) (by decide), h6', h.b7.fr f (by decide) (by decide), h.b8.fr f (by decide) (by decide)⟩⟩
  · obtain rfl := q2 c
    have qm := pX12_feel (S := S1) (V := vC S1) b.hV.symm b.dnM b.cnt b.pln b.rnM b.rn5 b.wkM b.wk1 b.wk6 h.b3.m2 r x
    rw [b.rnM, b.wkM] at qm
    refine qm.mono ?_
    rintro o h' ⟨rfl, T, rfl, q⟩
    obtain rfl := q.2 c
    exact ⟨_, rfl, rfl, h0⟩
