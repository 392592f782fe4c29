theorem restN_at (f : Nat → Int32) : ∀ n j, restN f n j = if j < n then nI 0 else f j
  | 0, j => by rw [if_neg (by omega)]; rfl
  | n + 1, j => by
    rw [restN]
    by_cases e : j = n
    · subst e; rw [va_a1, if_pos (by omega)]
    · rw [va_ne _ _ e, restN_at f n j]
      by_cases h : j < n
      · rw [if_pos h, if_pos (by omega)]
      · rw [if_neg h, if_neg (by omega)]
theorem shF_at (f : Nat → Int32) (s e o : Nat) : ∀ n j, shF f s e o n j = if o ≤ j ∧ j < o + n ∧ (j - o) % 7 < wkN s e (j - o) then nI (s % 10) else f j
  | 0, j => by rw [if_neg (by omega)]; rfl
  | n + 1, j => by
    by_cases hc : n % 7 < wkN s e n
    · rw [shF, if_pos hc]
      by_cases e1 : j = o + n
      · subst e1
        rw [va_a1, if_pos ⟨by omega, by omega, by rw [show o + n - o = n by omega]; exact hc⟩]
      · rw [va_ne _ _ e1, shF_at f s e o n j]
        by_cases h : o ≤ j ∧ j < o + n ∧ (j - o) % 7 < wkN s e (j - o)
        · rw [if_pos h, if_pos ⟨h.1, by omega, h.2.2⟩]
        · rw [if_neg h, if_neg (fun q => h ⟨q.1, by omega, q.2.2⟩)]
    · rw [shF, if_neg hc, shF_at f s e o n j]
      by_cases h : o ≤ j ∧ j < o + n ∧ (j - o) % 7 < wkN s e (j - o)
      · rw [if_pos h, if_pos ⟨h.1, by omega, h.2.2⟩]
      · rw [if_neg h, if_neg (fun q => h ⟨q.1, by
          have : j ≠ o + n := fun e1 => hc (by have q3 := q.2.2; rw [e1, show o + n - o = n by omega] at q3; exact q3)
          omega, q.2.2⟩)]
/-- the plan shaped: the class's row is the reference's -/
theorem sh_eq (f : Nat → Int32) {u v z : Nat} (hu : u ≤ 19) (h1 : v / 10 ≤ 7) (hz : z % 1000 < 120) (hz1 : z / 1000 ≤ z % 1000) : shF (restN f 120) u v (z / 1000) (z % 1000 + 1 - z / 1000) = fillN (shM u v z) f 120 := by
  funext j
  rw [shF_at, restN_at, fillN_at]
  have hw : ∀ k, k % 7 < wkN u v k ↔ k % 7 < mwkN u v k := by
    intro k
    rw [wkN, mwkN]
    by_cases c : u < 10
    · rw [if_pos c, if_neg (by omega)]; omega
    · rw [if_neg c, if_pos (by omega)]
      generalize k / 7 * (v % 10) / 4 = y
      omega
  by_cases hj : j < 120
  · rw [if_pos hj, if_pos hj, shM]
    by_cases c : z / 1000 ≤ j ∧ j < z / 1000 + (z % 1000 + 1 - z / 1000) ∧ (j - z / 1000) % 7 < wkN u v (j - z / 1000)
    · rw [if_pos c, if_pos ⟨c.1, by omega, (hw _).mp c.2.2⟩]
    · rw [if_neg c, if_neg (fun q => c ⟨q.1, by omega, (hw _).mpr q.2.2⟩)]
  · rw [if_neg hj, if_neg hj, if_neg (by omega)]
/-- the plan changed, and no change kept: alike in both -/
theorem rr_pl {S T : k_S} {wk rn dn tp : Nat} {T0 T1 T2 : List Int32} {lo tn nd nu kn ra : Nat} (h : RR S wk rn dn tp T0 T1 T2 lo tn nd nu kn ra) (f : Frm [1656, 1657, 2625, 2626] [25, 61] [] S T) {P : Nat → Int32} (e25 : T.2.1 25 = P) (e61 : T.2.1 61 = P) (hP : ∀ d, d < 120 → ∃ w, w < 6 ∧ P d = nI w) (i1 : T.1 1656 = nI 0) (i2 : T.1 1657 = nI 0) (i3 : T.1 2626 = nI 0) (i4 : T.1 2625 = nI 0) : RRx T := by
  have hb1 : B1 T wk rn dn := h.b1.pl f (by decide) (by decide) e25 e61 hP
  have h6' : B6 T 0 0 := ⟨i1, i2, i3, i4, by decide, by rw [f.2.1 36 (by decide), f.2.1 70 (by decide)]; exact h.b6.was, by rw [f.2.1 37 (by decide), f.2.1 71 (by decide)]; exact h.b6.now, fun k hk => absurd hk (by omega)⟩
  exact ⟨wk, rn, dn, tp, T0, T1, T2, lo, tn, 0, 0, kn, ra, ⟨hb1, h.b2.fr f (by decide) (by decide), h.b3.fr f (by decide) (by decide), h.b4.fr f (by decide), h.b5.fr f (by decide) (by decide), h6', h.b7.fr f (by decide) (by decide), h.b8.fr f (by decide) (by decide)⟩⟩
theorem bo_shape {S : k_S} (h : RRx S) (s e x : Int32) : Both MX11_shape MX12_shape [.int s, .int e, .int x] S := by
  have h0 := h
  obtain ⟨wk, rn, dn, tp, T0, T1, T2, lo, tn, nd, nu, kn, ra, h⟩ := h
  have b := h.b1
  obtain ⟨r0, r1, r2, r3, r4, r5, r6, r7, r8⟩ := hV_a b.hV
  have qc := pX11_shape (S := S) b.wkC b.wk1 b.wk6 s e x
  rw [b.wkC] at qc
  by_cases c : pShp (nI wk) s e x
  · obtain ⟨u, v, z, hu, hv, hz, rfl, rfl, rfl, huw, hv1, hv2, hz1, hz2, hz3⟩ := pShp_ex c rfl b.wk6
    have w6 := b.wk6
    have eR : shR S (nI u) (nI v) (nI z) = fillN (shM u v z) (S.2.1 25) 120 := by
      rw [shR, ix_nI (by omega), ix_nI hv, rrN_nI hz, ddN_nI hz]; exact sh_eq _ hu hv1 hz2 hz3
    have eR2 : ∀ C : k_S, mshR C (nI u) (nI v) (nI z) = fillN (shM u v z) (C.2.1 61) 120 := by
      intro C; rw [mshR, ix_nI (by omega), ix_nI hv, ix_nI hz]
    rw [aShp, sShp, b.wkC, if_pos c, if_pos c, eR] at qc
    obtain ⟨S1, hS1⟩ : ∃ S1, sa (clS S) 25 (fillN (shM u v z) (S.2.1 25) 120) = S1 := ⟨_, rfl⟩
    have f1 : Frm [1656, 1657] [25] [] S S1 := by rw [← hS1]; exact (((Frm.rf S).si (by decide) _).si (by decide) _).sa (by decide) _
    have a25 : S1.2.1 25 = fillN (shM u v z) (S.2.1 25) 120 := by rw [← hS1]; rfl
    have i1 : S1.1 1656 = nI 0 := by rw [← hS1]; rfl
    have i2 : S1.1 1657 = nI 0 := by rw [← hS1]; rfl
    rw [hS1] at qc
    have qm := pX12_shape (S := S1) ((f1.1 2600 (by decide)).trans b.wkM) b.wk6 (nI u) (nI v) (nI z)
    rw [aMShp, mShp, (f1.1 2600 (by decide)).trans b.wkM, if_pos c, if_pos c, eR2, f1.2.1 61 (by decide), ← r6] at qm
    refine both_t (dc := 3) (dm := 2) (by decide) (by decide) qc qm ?_
    obtain ⟨T, hT⟩ : ∃ T, si (si (sa S1 61 (fillN (shM u v z) (S.2.1 25) 120)) 2626 (nI 0)) 2625 (nI 0) = T := ⟨_, rfl⟩
    have f2 : Frm [2626, 2625] [61] [] S1 T := by rw [← hT]; exact (((Frm.rf S1).sa (by decide) _).si (by decide) _).si (by decide) _
    have f : Frm [1656, 1657, 2625, 2626] [25, 61] [] S T := (f1.wk (by decide) (by decide) (by decide)).tr (f2.wk (by decide) (by decide) (by decide))
    have i3 : T.1 2626 = nI 0 := by rw [← hT]; rfl
    have i4 : T.1 2625 = nI 0 := by rw [← hT]; rfl
    have a61 : T.2.1 61 = fillN (shM u v z) (S.2.1 25) 120 := by rw [← hT]; rfl
    rw [hT]
    refine rr_pl h f ((f2.2.1 25 (by decide)).trans a25) a61 (fun d hd => ?_) ((f2.1 1656 (by decide)).trans i1) ((f2.1 1657 (by decide)).trans i2) i3 i4
    have q := shM_ok (vC S) (f := S.2.1 25) (z := z) (v := v) huw b.wk6 d hd
    exact ⟨_, q.2, q.1⟩
  · rw [aShp, sShp, b.wkC, if_neg c, if_neg c] at qc
    have qm := pX12_shape (S := S) b.wkM b.wk6 s e x
    rw [aMShp, mShp, b.wkM, if_neg c, if_neg c] at qm
    exact both_0 (dc := 3) (dm := 2) h0 (by decide) (by decide) qc qm
theorem B8.shC {S : k_S} {kn : Nat} (h : B8 S kn) : ShOk S kn := by
  intro j hj
  rcases h j hj with ⟨q, _⟩ | ⟨p, h1, h2, h3, _⟩ | ⟨s, l, h1, h2, h3, h4, _⟩
  · exact Or.inl q
  · exact Or.inr (Or.inl ⟨h2, p, h1, h3⟩)
  · exact Or.inr (Or.inr ⟨s, l, h1, h2, h3, h4⟩)
theorem B8.shM {S : k_S} {kn : Nat} (h : B8 S kn) : mShOk S kn := by
  intro j hj
  rcases h j hj with ⟨_, q⟩ | ⟨p, h1, _, _, h2⟩ | ⟨s, l, h1, h2, _, _, h3, h4, h5, _⟩
  · exact Or.inl q
  · exact Or.inr (Or.inl ⟨p, h1, h2⟩)
  · exact Or.inr (Or.inr ⟨h3, s, l, h1, h2, h4, h5⟩)
theorem nI_ne1 {p : Nat} (h : p < 2 ^ 31) : ¬ nI p = -1 := fun e => by
  have q := congrArg Int32.toInt e
  rw [nI_toInt h, show (-1 : Int32).toInt = -1 from by decide] at q; omega
theorem nI_ne2 {p : Nat} (h : p < 2 ^ 31) : ¬ nI p = -2 := fun e => by
  have q := congrArg Int32.toInt e
  rw [nI_toInt h, show (-2 : Int32).toInt = -2 from by decide] at q; omega
theorem i64_i32 (y : Int32) : y.toInt64.toInt32 = y := by
  simp
theorem low_pos {e : Int64} {wk : Nat} (h : lowb 0 e = e) (h2 : pW (nI wk) e.toInt32) : ¬ lg_cmp e 0 < 0 := by
  unfold lg_cmp
  rw [lowb] at h
  generalize hy : e.toInt32.toInt8.toInt32 = y at h
  subst h
  have h3 := Int32.le_iff_toInt_le.mp h2.1
  rw [i64_i32, nI_toInt (by decide)] at h3
  by_cases c : y.toInt64 > 0
  · rw [if_pos c]; decide
  · by_cases c2 : y.toInt64 = 0
    · rw [if_neg c, if_pos c2]; decide
    · exfalso
      have c3 : ¬ (0 : Int64).toInt < y.toInt64.toInt := fun q => c (Int64.lt_iff_toInt_lt.mpr q)
      rw [Int32.toInt_toInt64, show (0 : Int64).toInt = 0 from by decide] at c3
      exact c2 (Int64.toInt_inj.mp (by rw [Int32.toInt_toInt64, show (0 : Int64).toInt = 0 from by decide]; omega))
theorem ldN_cg {g g2 : Nat → Prop} [DecidablePred g] [DecidablePred g2] (h : ∀ j, g j ↔ g2 j) : ∀ k j, ldN g k j = ldN g2 k j
  | 0, _ => rfl
  | k + 1, j => by
    rw [ldN, ldN]
    by_cases c : g j
    · rw [if_pos c, if_pos ((h j).mp c)]; exact ldN_cg h k (j + 1)
    · rw [if_neg c, if_neg (fun q => c ((h j).mpr q))]
theorem ldN_in {g : Nat → Prop} [DecidablePred g] : ∀ k j x, j ≤ x → x < ldN g k j → g x
  | 0, j, x, h1, h2 => by rw [ldN] at h2; omega
  | k + 1, j, x, h1, h2 => by
    rw [ldN] at h2
    by_cases c : g j
    · rw [if_pos c] at h2
      by_cases e : x = j
      · subst e; exact c
      · exact ldN_in k (j + 1) x (by omega) h2
    · rw [if_neg c] at h2; omega
theorem ldN_no {g : Nat → Prop} [DecidablePred g] (k : Nat) (j : Nat) (h : ¬ g j) : ldN g k j = j := by
  cases k with
  | zero => rfl
  | succ k => rw [ldN, if_neg h]
theorem wkP_cg (p : Nat → Int32) (d : Nat) {e e2 : Nat → Int64} : ∀ n, (∀ j, j < n → e j = e2 j) → wkP p d e n = wkP p d e2 n
  | 0, _ => rfl
  | n + 1, h => by rw [wkP, wkP, wkP_cg p d n (fun j hj => h j (by omega)), h n (by omega)]
theorem wkP_in {p : Nat → Int32} {d wk : Nat} {e : Nat → Int64} (h6 : wk ≤ 6) (hp0 : ∀ x, x < 120 → ∃ w, w < 6 ∧ p x = nI w) : ∀ n, (∀ j, j < n → pW (nI wk) (e j).toInt32) → ∀ x, x < 120 → ∃ w, w < 6 ∧ wkP p d e n x = nI w
  | 0, _, x, hx => hp0 x hx
  | n + 1, h, x, hx => by
    rw [wkP]
    by_cases c : x = d + n
    · subst c; rw [va_a1]
      obtain ⟨w, hw, ew⟩ := pW_ex (h n (by omega)) rfl (by omega)
      exact ⟨w, by omega, ew⟩
    · rw [va_ne _ _ c]; exact wkP_in h6 hp0 n (fun j hj => h j (by omega)) x hx
/-- a day's number from a row: it goes on in both, or in neither -/
theorem wk_iff {S S1 : k_S} {kn u wk : Nat} (h8 : shR2 S kn u) (f1 : S1 = sa (clS S) 25 (S1.2.1 25)) (kC : S.1 803 = nI wk) (kM : S.1 2600 = nI wk) (hkn : kn ≤ 50) (hne : S.2.1 8 u = -2 ∨ S.2.1 8 u = nI 0) {d m : Nat} {i : Int32} (hi : ¬ i < 0) (j : Nat) : (wkG (clS S) u d i m j ↔ mkG S1 u d i m j) ∧ (wkG (clS S) u d i m j → wkE (clS S) u i j = mkE S1 u i j) := by
  have g74 : S1.2.1 74 = S.2.1 74 := by rw [f1]; rfl
  have g76 : S1.2.1 76 = S.2.1 76 := by rw [f1]; rfl
  have g77 : S1.2.2 77 = S.2.2 77 := by rw [f1]; rfl
  have gk : S1.1 2600 = nI wk := by rw [f1]; exact kM
  have epl : plc i j = i + nI j := by rw [plc, if_neg hi]
  have g8 : (clS S).2.1 8 = S.2.1 8 := rfl
  have g9 : (clS S).2.1 9 = S.2.1 9 := rfl
  have gC : (clS S).1 803 = nI wk := kC
  rcases h8 with ⟨q, q2⟩ | ⟨p, h1, h2, h3, h4⟩ | ⟨s, l, h1, h2, h3, h4, h5, h6, h7, h9⟩
  · have n1 : ¬ wkG (clS S) u d i m j := fun w => by
      have := w.2.2.1.1
      rw [g8, q] at this; exact absurd this (by decide)
    exact ⟨⟨fun w => absurd w n1, fun w => by have := w.1; rw [g74, q2] at this; exact absurd this (by decide)⟩, fun w => absurd w n1⟩
  · rw [h2] at hne
    rcases hne with q | q
    · exact absurd q (by decide)
    · exact absurd q (by decide)
  · have s0 : s = 0 := by
      rw [h3] at hne
      rcases hne with q | q
      · exact absurd q (nI_ne2 (by omega))
      · have q2 := congrArg Int32.toInt q
        rw [nI_toInt (by omega), nI_toInt (by omega)] at q2; omega
    subst s0
    have hel : (0 ≤ i + nI j ∧ i + nI j < S.2.1 9 u) → wkE (clS S) u i j = mkE S1 u i j ∧ lowb 0 (wkE (clS S) u i j) = wkE (clS S) u i j := by
      intro q
      obtain ⟨p, hp1, hp2⟩ := k_rng q.1 (by rw [← h4]; exact q.2) (by omega)
      have e1 : wkE (clS S) u i j = S.2.2 10 (u * 60 + p) := by
        rw [wkE, epl, hp2, ix_nI (by omega)]; rfl
      have e2 : mkE S1 u i j = S.2.2 77 (u * 60 + p) := by
        rw [mkE, hp2, ix_nI (by omega), g77]
      have := h9 p (by omega)
      rw [e1, e2]; exact ⟨this.1, this.2 rfl⟩
    constructor
    · constructor
      · rintro ⟨a1, a2, a3, a4, a5⟩
        rw [epl] at a3
        have q := hel a3.2
        refine ⟨by rw [g74]; exact h5, a1, a3.2.1, ?_, a2, ?_⟩
        · rw [g76, h7, ← h4]; exact a3.2.2
        · rw [gk, ← q.1, ← gC]; exact a5
      · rintro ⟨a1, a2, a3, a4, a5, a6⟩
        rw [g76, h7, ← h4] at a4
        have q := hel ⟨a3, a4⟩
        rw [gk, ← q.1] at a6
        refine ⟨a2, a5, ⟨?_, ?_, ?_⟩, low_pos q.2 a6, by rw [gC]; exact a6⟩
        · rw [g8, h3]; decide
        · rw [epl]; exact a3
        · rw [epl]; exact a4
    · rintro ⟨a1, a2, a3, a4, a5⟩
      rw [epl] at a3
      exact (hel a3.2).1
theorem oth_iff {S S1 : k_S} {kn u : Nat} (h8 : shR2 S kn u) (hkn : kn ≤ 50) (e74 : S1.2.1 74 u = S.2.1 74 u) (e75 : S1.2.1 75 u = S.2.1 75 u) (hu : u < 6) : (¬ S.2.1 8 u = -2 ∧ ¬ S.2.1 8 u = nI 0) ↔ pMOth S1 (nI u) := by
  rw [pMOth, ix_nI (by omega), e74, e75]
  rcases h8 with ⟨q, q2⟩ | ⟨p, h1, h2, h3, h4⟩ | ⟨s, l, h1, h2, h3, h4, h5, h6, h7, h9⟩
  · rw [q, q2]; exact ⟨fun c => absurd rfl c.1, fun c => absurd rfl c.1⟩
  · rw [h2, h4]
    exact ⟨fun _ => ⟨nI_ne1 (by omega), Or.inl (nI_ne2 (by omega))⟩, fun _ => ⟨by decide, by decide⟩⟩
  · rw [h3, h5, h6]
    exact ⟨fun q => ⟨by decide, Or.inr q.2⟩, fun q => ⟨nI_ne2 (by omega), by rcases q.2 with q | q; exact absurd rfl q; exact q⟩⟩
theorem bo_weeks {S : k_S} (h : RRx S) (dy s i n : Int32) : Both MX11_weeks MX12_weeks [.int dy, .int s, .int i, .int n] S := by
  have h0 := h
  obtain ⟨wk, rn, dn, tp, T0, T1, T2, lo, tn, nd, nu, kn, ra, h⟩ := h
  have b := h.b1
  obtain ⟨r0, r1, r2, r3, r4, r5, r6, r7, r8⟩ := hV_a b.hV
  have k50 := h.b7.kdC.2.1
  have w6 := b.wk6
  have qc := pX11_weeks (S := S) h.b8.shC dy s i n
  by_cases c : pWks dy s n
  · obtain ⟨d, hd, rfl⟩ := pD_ex c.1
    obtain ⟨u, hu, rfl⟩ := pSh_ex c.2.1
    obtain ⟨m, hm, rfl⟩ := k_rngle (Int32.le_trans (by decide) c.2.2.1) c.2.2.2 (by decide)
    have h8 := h.b8.shs u hu
    by_cases c2 : ¬ S.2.1 8 u = -2 ∧ ¬ S.2.1 8 u = nI 0
    · rw [aWks, sWks, if_pos c, if_pos c, ix_nI (show u < 2 ^ 31 by omega), if_pos c2, if_pos c2] at qc
      have qm := pX12_weeks (S := S) h.b8.shM k50 b.wkM b.wk6 (nI d) (nI u) i (nI m)
      have c3 := (oth_iff h8 k50 rfl rfl hu).mp c2
      rw [aMWks, mWks, if_pos c, if_pos c, if_pos c3, if_pos c3] at qm
      exact both_0 (dc := 3) (dm := 2) h0 (by decide) (by decide) qc qm
    · rw [aWks, sWks, if_pos c, if_pos c, wkcN, ix_nI (show u < 2 ^ 31 by omega), ix_nI (show d < 2 ^ 31 by omega), ix_nI (show m < 2 ^ 31 by omega), if_neg c2, if_neg c2] at qc
      obtain ⟨K, hK⟩ : ∃ K, ldN (wkG (clS S) u d i m) m 0 = K := ⟨_, rfl⟩
      obtain ⟨S1, hS1⟩ : ∃ S1, sa (clS S) 25 (wkP (S.2.1 25) d (wkE (clS S) u i) K) = S1 := ⟨_, rfl⟩
      have f1 : Frm [1656, 1657] [25] [] S S1 := by rw [← hS1]; exact (((Frm.rf S).si (by decide) _).si (by decide) _).sa (by decide) _
      have a25 : S1.2.1 25 = wkP (S.2.1 25) d (wkE (clS S) u i) K := by rw [← hS1]; rfl
      have i1 : S1.1 1656 = nI 0 := by rw [← hS1]; rfl
      have i2 : S1.1 1657 = nI 0 := by rw [← hS1]; rfl
      rw [hK, hS1] at qc
      have hne : S.2.1 8 u = -2 ∨ S.2.1 8 u = nI 0 := by
        by_cases q : S.2.1 8 u = -2
        · exact Or.inl q
        · exact Or.inr (Classical.not_not.mp (fun q2 => c2 ⟨q, q2⟩))
      have h8' : B8 S1 kn := h.b8.fr f1 (by decide) (by decide)
      have qm := pX12_weeks (S := S1) h8'.shM k50 ((f1.1 2600 (by decide)).trans b.wkM) b.wk6 (nI d) (nI u) i (nI m)
      have c3 : ¬ pMOth S1 (nI u) := fun q => c2 ((oth_iff h8 k50 (congrFun (f1.2.1 74 (by decide)) u) (congrFun (f1.2.1 75 (by decide)) u) hu).mpr q)
      have eS1 : S1 = sa (clS S) 25 (S1.2.1 25) := by rw [a25, hS1]
      have key : ldN (mkG S1 u d i m) m 0 = K ∧ (∀ j, j < K → wkE (clS S) u i j = mkE S1 u i j ∧ pW (nI wk) (wkE (clS S) u i j).toInt32) := by
        by_cases hi : i < 0
        · have n1 : ¬ wkG (clS S) u d i m 0 := fun q => by
            have q2 := q.2.2.1.2.1
            rw [plc, if_pos hi] at q2; exact absurd q2 (by decide)
          have n2 : ¬ mkG S1 u d i m 0 := fun q => by
            have q2 := q.2.2.1
            rw [show i + nI 0 = i from Int32.add_zero i] at q2
            exact absurd hi (Int32.not_lt.mpr q2)
          rw [ldN_no _ _ n1] at hK
          exact ⟨by rw [ldN_no _ _ n2]; exact hK, fun j hj => by omega⟩
        · have q := fun j => wk_iff (m := m) (d := d) h8 eS1 b.wkC b.wkM k50 hne hi j
          refine ⟨by rw [← hK]; exact (ldN_cg (fun j => (q j).1) m 0).symm, fun j hj => ?_⟩
          have g := ldN_in (g := wkG (clS S) u d i m) m 0 j (by omega) (by rw [hK]; exact hj)
          exact ⟨(q j).2 g, by have := g.2.2.2.2; rw [show (clS S).1 803 = nI wk from b.wkC] at this; exact this⟩
      rw [aMWks, mWks, if_pos c, if_pos c, if_neg c3, if_neg c3, mwcN, ix_nI (show u < 2 ^ 31 by omega), ix_nI (show d < 2 ^ 31 by omega), ix_nI (show m < 2 ^ 31 by omega), key.1, f1.2.1 61 (by decide), ← r6] at qm
      refine both_t (dc := 3) (dm := 2) (by decide) (by decide) qc qm ?_
      obtain ⟨T, hT⟩ : ∃ T, si (si (sa S1 61 (wkP (S.2.1 25) d (mkE S1 u i) K)) 2626 (nI 0)) 2625 (nI 0) = T := ⟨_, rfl⟩
      have f2 : Frm [2626, 2625] [61] [] S1 T := by rw [← hT]; exact (((Frm.rf S1).sa (by decide) _).si (by decide) _).si (by decide) _
      have f : Frm [1656, 1657, 2625, 2626] [25, 61] [] S T := (f1.wk (by decide) (by decide) (by decide)).tr (f2.wk (by decide) (by decide) (by decide))
      have i3 : T.1 2626 = nI 0 := by rw [← hT]; rfl
      have i4 : T.1 2625 = nI 0 := by rw [← hT]; rfl
      have a61 : T.2.1 61 = wkP (S.2.1 25) d (wkE (clS S) u i) K := by
        rw [wkP_cg _ _ _ (fun j hj => (key.2 j hj).1), ← hT]; rfl
      rw [hT]
      exact rr_pl h f ((f2.2.1 25 (by decide)).trans a25) a61 (wkP_in b.wk6 (fun x hx => ⟨_, (b.pln x hx).2, (b.pln x hx).1⟩) K (fun j hj => (key.2 j hj).2)) ((f2.1 1656 (by decide)).trans i1) ((f2.1 1657 (by decide)).trans i2) i3 i4
  · rw [aWks, sWks, if_neg c, if_neg c] at qc
    have qm := pX12_weeks (S := S) h.b8.shM k50 b.wkM b.wk6 dy s i n
    rw [aMWks, mWks, if_neg c, if_neg c] at qm
    exact both_0 (dc := 3) (dm := 2) h0 (by decide) (by decide) qc qm
