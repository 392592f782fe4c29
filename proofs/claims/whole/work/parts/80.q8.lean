theorem B8.up {S T : k_S} {kn j : Nat} (h : B8 S kn) (e : ∀ k, k < 6 → k ≠ j → T.2.1 8 k = S.2.1 8 k ∧ T.2.1 9 k = S.2.1 9 k ∧ T.2.1 74 k = S.2.1 74 k ∧ T.2.1 75 k = S.2.1 75 k ∧ T.2.1 76 k = S.2.1 76 k ∧ ∀ i, i < 60 → T.2.2 10 (k * 60 + i) = S.2.2 10 (k * 60 + i) ∧ T.2.2 77 (k * 60 + i) = S.2.2 77 (k * 60 + i)) (hj : shR2 T kn j) : B8 T kn := by
  intro k hk
  by_cases c : k = j
  · subst c; exact hj
  · obtain ⟨e1, e2, e3, e4, e5, e6⟩ := e k hk c
    unfold shR2
    rw [e1, e2, e3, e4, e5]
    rcases h k hk with q | q | ⟨s, l, h1, h2, h3, h4, h5, h6, h7, h9⟩
    · exact Or.inl q
    · exact Or.inr (Or.inl q)
    · refine Or.inr (Or.inr ⟨s, l, h1, h2, h3, h4, h5, h6, h7, fun i hi => ?_⟩)
      rw [(e6 i hi).1, (e6 i hi).2]; exact h9 i hi
theorem vJ_1 (f : Nat → Int64) (j : Nat) (x : Int64) : va_up f j x j = x := if_pos rfl
theorem vJ_n (f : Nat → Int64) (j : Nat) (x : Int64) {k : Nat} (h : k ≠ j) : va_up f j x k = f k := if_neg h
theorem low_low (v : Int64) : lowb 0 (lowb 0 v) = lowb 0 v := by
  show ((v.toInt32.toInt8.toInt32.toInt64).toInt32).toInt8.toInt32.toInt64 = v.toInt32.toInt8.toInt32.toInt64
  rw [i64_i32]; simp
theorem low_z : lowb 0 0 = 0 := by decide
theorem nI_n0 {p : Nat} (h : p < 2 ^ 31) : 0 ≤ nI p := nI_pos' h
/-- what refuses a place in a row: alike -/
theorem rfs_eq {S S1 : k_S} {kn : Nat} (h : B8 S kn) (hkn : kn ≤ 50) (g74 : S1.2.1 74 = S.2.1 74) (g76 : S1.2.1 76 = S.2.1 76) (s i : Int32) : rfs S s i = mrf S1 s i := by
  unfold rfs mrf
  rw [g74, g76]
  by_cases c : pSh s
  · obtain ⟨j, hj, rfl⟩ := pSh_ex c
    rw [if_neg (not_not_intro c), if_neg (not_not_intro c), ix_nI (by omega)]
    rcases h j hj with ⟨q1, q2⟩ | ⟨p, h1, h2, h3, h4⟩ | ⟨s, l, h1, h2, h3, h4, h5, h6, h7, h9⟩
    · rw [if_pos q1, if_pos q2]
    · rw [if_neg (by rw [h2]; decide), if_pos (by rw [h2]; decide), if_neg (by rw [h4]; exact nI_ne1 (by omega)), if_pos (by rw [h4]; exact nI_ne2 (by omega))]
    · rw [h3, h4, h5, h7]
      have n1 : ¬ nI s = -2 := nI_ne2 (by omega)
      have n2 : ¬ ¬ 0 ≤ nI s := not_not_intro (nI_n0 (by omega))
      have n3 : ¬ (-2 : Int32) = -1 := by decide
      have n4 : ¬ ¬ (-2 : Int32) = -2 := by decide
      rw [if_neg n1, if_neg n2, if_neg n3, if_neg n4]
      by_cases c2 : 0 ≤ i ∧ i < nI l
      · rw [if_pos c2, if_pos ((pIn_W (by omega) _).mpr c2)]
      · rw [if_neg c2, if_neg (fun q => c2 ((pIn_W (by omega) _).mp q))]
  · rw [if_pos c, if_pos c]
theorem rfs_e2 {S : k_S} {kn : Nat} (h : B8 S kn) {s i : Int32} (c : rfs S s i = 0) : ∃ j k t l, j < 6 ∧ k < l ∧ s = nI j ∧ i = nI k ∧ t < 5 ∧ l ≤ 60 ∧ S.2.1 8 j = nI t ∧ S.2.1 9 j = nI l ∧ S.2.1 74 j = -2 ∧ S.2.1 75 j = nI t ∧ S.2.1 76 j = nI l ∧ ∀ i, i < 60 → S.2.2 10 (j * 60 + i) = S.2.2 77 (j * 60 + i) ∧ (t = 0 → lowb 0 (S.2.2 10 (j * 60 + i)) = S.2.2 10 (j * 60 + i)) := by
  unfold rfs at c
  by_cases c1 : pSh s
  · obtain ⟨j, hj, rfl⟩ := pSh_ex c1
    rw [if_neg (not_not_intro c1), ix_nI (by omega)] at c
    rcases h j hj with ⟨q1, q2⟩ | ⟨p, h1, h2, h3, h4⟩ | ⟨s, l, h1, h2, h3, h4, h5, h6, h7, h9⟩
    · rw [if_pos q1] at c; exact absurd c (by decide)
    · rw [if_neg (by rw [h2]; decide), if_pos (by rw [h2]; decide)] at c; exact absurd c (by decide)
    · rw [if_neg (by rw [h3]; exact nI_ne2 (by omega)), if_neg (by rw [h3]; exact not_not_intro (nI_n0 (by omega)))] at c
      by_cases c2 : 0 ≤ i ∧ i < S.2.1 9 j
      · obtain ⟨k, hk, rfl⟩ := k_rng c2.1 (by rw [← h4]; exact c2.2) (by omega)
        exact ⟨j, k, s, l, hj, hk, rfl, rfl, h1, h2, h3, h4, h5, h6, h7, h9⟩
      · rw [if_neg c2] at c; exact absurd c (by decide)
  · rw [if_pos c1] at c; exact absurd c (by decide)
theorem bo_keep {S : k_S} (h : RRx S) (s x : Int32) : Both MX11_keep MX12_keep [.int s, .int x] S := by
  have h0 := h
  obtain ⟨wk, rn, dn, tp, T0, T1, T2, lo, tn, nd, nu, kn, ra, h⟩ := h
  have b := h.b1
  have k50 := h.b7.kdC.2.1
  have qc := pX11_keep (S := S) s x
  rw [sKp, h.b7.kdC.1] at qc
  by_cases c : pKp (nI kn) s x
  · obtain ⟨j, hj, rfl⟩ := pSh_ex c.1
    rw [if_pos c, ix_nI (by omega)] at qc
    obtain ⟨S1, hS1⟩ : ∃ S1, hldS S j (if x = -1 then -2 else -1) x = S1 := ⟨_, rfl⟩
    have f1 : Frm [] [8, 9] [10] S S1 := by rw [← hS1]; exact ((((Frm.rf S).sa (by decide) _).sa (by decide) _).sj (by decide) _)
    rw [hS1] at qc
    have qm := pX12_keep (S := S1) ((f1.1 2627 (by decide)).trans h.b7.kdM.1) k50 (nI j) x
    rw [mKp, (f1.1 2627 (by decide)).trans h.b7.kdM.1, if_pos c, ix_nI (by omega)] at qm
    refine both_t (dc := 2) (dm := 2) (by decide) (by decide) qc qm ?_
    obtain ⟨T, hT⟩ : ∃ T, sa S1 74 (va_up (S1.2.1 74) j x) = T := ⟨_, rfl⟩
    have f2 : Frm [] [74] [] S1 T := by rw [← hT]; exact (Frm.rf S1).sa (by decide) _
    have f : Frm [] [8, 9, 74] [10] S T := (f1.wk (by decide) (by decide) (by decide)).tr (f2.wk (by decide) (by decide) (by decide))
    have a8 : T.2.1 8 = va_up (S.2.1 8) j (if x = -1 then -2 else -1) := by rw [f2.2.1 8 (by decide), ← hS1]; rfl
    have a9 : T.2.1 9 = va_up (S.2.1 9) j x := by rw [f2.2.1 9 (by decide), ← hS1]; rfl
    have a74 : T.2.1 74 = va_up (S.2.1 74) j x := by rw [← f1.2.1 74 (by decide), ← hT]; rfl
    have a10 : T.2.2 10 = fillJ (fun _ => 0) (j * 60) (S.2.2 10) 60 := by rw [f2.2.2 10 (by decide), ← hS1]; rfl
    rw [hT]
    have h8' : B8 T kn := by
      refine h.b8.up (j := j) (fun k hk hne => ?_) ?_
      · rw [a8, a9, a74, va_ne _ _ hne, va_ne _ _ hne, va_ne _ _ hne, f.2.1 75 (by decide), f.2.1 76 (by decide), f.2.2 77 (by decide)]
        refine ⟨rfl, rfl, rfl, rfl, rfl, fun i hi => ⟨?_, rfl⟩⟩
        rw [a10, fillJ_at, if_neg (by omega)]
      · unfold shR2
        rw [a8, a9, a74, va_a1, va_a1, va_a1]
        by_cases cx : x = -1
        · rw [if_pos cx]; exact Or.inl ⟨rfl, cx⟩
        · rw [if_neg cx]
          rcases c.2 with q | q
          · exact absurd q cx
          · obtain ⟨p, hp1, hp2⟩ := pW_ex q rfl (by omega)
            exact Or.inr (Or.inl ⟨p, hp1, rfl, hp2, hp2⟩)
    exact ⟨wk, rn, dn, tp, T0, T1, T2, lo, tn, nd, nu, kn, ra, ⟨h.b1.fr f (by decide) (by decide) (by decide), h.b2.fr f (by decide) (by decide), h.b3.fr f (by decide) (by decide), h.b4.fr f (by decide), h.b5.fr f (by decide) (by decide), h.b6.fr f (by decide) (by decide), h.b7.fr f (by decide) (by decide), h8'⟩⟩
  · rw [if_neg c] at qc
    have qm := pX12_keep (S := S) h.b7.kdM.1 k50 s x
    rw [mKp, h.b7.kdM.1, if_neg c] at qm
    exact both_0 (dc := 2) (dm := 2) h0 (by decide) (by decide) qc qm
theorem bo_row {S : k_S} (h : RRx S) (s t n : Int32) : Both MX11_row MX12_row [.int s, .int t, .int n] S := by
  have h0 := h
  obtain ⟨wk, rn, dn, tp, T0, T1, T2, lo, tn, nd, nu, kn, ra, h⟩ := h
  have b := h.b1
  have qc := pX11_row (S := S) s t n
  by_cases c : pRw s t n ∧ ¬ n < 0
  · obtain ⟨j, hj, rfl⟩ := pSh_ex c.1.1
    obtain ⟨z, hz, rfl⟩ := k_rngle c.1.2.1.1 c.1.2.1.2 (by decide)
    obtain ⟨l, hl, rfl⟩ := k_rngle (Int32.not_lt.mp c.2) c.1.2.2 (by decide)
    rw [sRw, if_pos c.1, if_neg c.2, ix_nI (by omega)] at qc
    obtain ⟨S1, hS1⟩ : ∃ S1, hldS S j (nI z) (nI l) = S1 := ⟨_, rfl⟩
    have f1 : Frm [] [8, 9] [10] S S1 := by rw [← hS1]; exact ((((Frm.rf S).sa (by decide) _).sa (by decide) _).sj (by decide) _)
    rw [hS1] at qc
    have qm := pX12_row (S := S1) (nI j) (nI z) (nI l)
    rw [mRw, if_pos c.1, if_neg c.2, ix_nI (by omega)] at qm
    refine both_t (dc := 2) (dm := 2) (by decide) (by decide) qc qm ?_
    obtain ⟨T, hT⟩ : ∃ T, mRowS S1 j (nI z) (nI l) = T := ⟨_, rfl⟩
    have f2 : Frm [] [74, 75, 76] [77] S1 T := by rw [← hT]; exact ((((Frm.rf S1).sa (by decide) _).sa (by decide) _).sa (by decide) _).sj (by decide) _
    have f : Frm [] [8, 9, 74, 75, 76] [10, 77] S T := (f1.wk (by decide) (by decide) (by decide)).tr (f2.wk (by decide) (by decide) (by decide))
    have a8 : T.2.1 8 = va_up (S.2.1 8) j (nI z) := by rw [f2.2.1 8 (by decide), ← hS1]; rfl
    have a9 : T.2.1 9 = va_up (S.2.1 9) j (nI l) := by rw [f2.2.1 9 (by decide), ← hS1]; rfl
    have a74 : T.2.1 74 = va_up (S.2.1 74) j (-2) := by rw [← f1.2.1 74 (by decide), ← hT]; rfl
    have a75 : T.2.1 75 = va_up (S.2.1 75) j (nI z) := by rw [← f1.2.1 75 (by decide), ← hT]; rfl
    have a76 : T.2.1 76 = va_up (S.2.1 76) j (nI l) := by rw [← f1.2.1 76 (by decide), ← hT]; rfl
    have a10 : T.2.2 10 = fillJ (fun _ => 0) (j * 60) (S.2.2 10) 60 := by rw [f2.2.2 10 (by decide), ← hS1]; rfl
    have a77 : T.2.2 77 = fillJ (fun _ => 0) (j * 60) (S.2.2 77) 60 := by rw [← f1.2.2 77 (by decide), ← hT]; rfl
    rw [hT]
    have h8' : B8 T kn := by
      refine h.b8.up (j := j) (fun k hk hne => ?_) ?_
      · rw [a8, a9, a74, a75, a76, va_ne _ _ hne, va_ne _ _ hne, va_ne _ _ hne, va_ne _ _ hne, va_ne _ _ hne]
        refine ⟨rfl, rfl, rfl, rfl, rfl, fun i hi => ⟨?_, ?_⟩⟩
        · rw [a10, fillJ_at, if_neg (by omega)]
        · rw [a77, fillJ_at, if_neg (by omega)]
      · unfold shR2
        rw [a8, a9, a74, a75, a76, va_a1, va_a1, va_a1, va_a1, va_a1]
        refine Or.inr (Or.inr ⟨z, l, by omega, hl, rfl, rfl, rfl, rfl, rfl, fun i hi => ?_⟩)
        rw [a10, a77, fillJ_at, fillJ_at, if_pos (by omega), if_pos (by omega)]
        exact ⟨rfl, fun _ => low_z⟩
    exact ⟨wk, rn, dn, tp, T0, T1, T2, lo, tn, nd, nu, kn, ra, ⟨h.b1.fr f (by decide) (by decide) (by decide), h.b2.fr f (by decide) (by decide), h.b3.fr f (by decide) (by decide), h.b4.fr f (by decide), h.b5.fr f (by decide) (by decide), h.b6.fr f (by decide) (by decide), h.b7.fr f (by decide) (by decide), h8'⟩⟩
  · have e1 : sRw S s t n = S := by
      rw [sRw]
      by_cases c1 : pRw s t n
      · rw [if_pos c1, if_pos (Classical.not_not.mp (fun q => c ⟨c1, q⟩))]
      · rw [if_neg c1]
    have e2 : mRw S s t n = S := by
      rw [mRw]
      by_cases c1 : pRw s t n
      · rw [if_pos c1, if_pos (Classical.not_not.mp (fun q => c ⟨c1, q⟩))]
      · rw [if_neg c1]
    rw [e1] at qc
    have qm := pX12_row (S := S) s t n
    rw [e2] at qm
    exact both_0 (dc := 2) (dm := 2) h0 (by decide) (by decide) qc qm
theorem bo_put {S : k_S} (h : RRx S) (s i : Int32) (v : Int64) : Both MX11_put MX12_put [.int s, .int i, .long v] S := by
  have h0 := h
  obtain ⟨wk, rn, dn, tp, T0, T1, T2, lo, tn, nd, nu, kn, ra, h⟩ := h
  have b := h.b1
  have k50 := h.b7.kdC.2.1
  have qc := pX11_put (S := S) h.b8.shC s i v
  by_cases c : rfs S s i = 0
  · obtain ⟨j, k, t, l, hj, hk, rfl, rfl, ht, hl, h3, h4, h5, h6, h7, h9⟩ := rfs_e2 h.b8 c
    rw [aPut, sPut, if_pos c, if_pos c, ix_nI (by omega), ix_nI (by omega), h3, ix_nI (by omega)] at qc
    obtain ⟨S1, hS1⟩ : ∃ S1, sj S 10 (va_up (S.2.2 10) (j * 60 + k) (lowb t v)) = S1 := ⟨_, rfl⟩
    have f1 : Frm [] [] [10] S S1 := by rw [← hS1]; exact (Frm.rf S).sj (by decide) _
    have a10 : S1.2.2 10 = va_up (S.2.2 10) (j * 60 + k) (lowb t v) := by rw [← hS1]; rfl
    rw [hS1] at qc
    have hs1 : mShOk S1 kn := by
      intro a ha
      rw [f1.2.1 74 (by decide), f1.2.1 75 (by decide), f1.2.1 76 (by decide)]; exact h.b8.shM a ha
    have qm := pX12_put (S := S1) hs1 k50 (nI j) (nI k) v
    have e := rfs_eq (S1 := S1) h.b8 k50 (f1.2.1 74 (by decide)) (f1.2.1 76 (by decide)) (nI j) (nI k)
    rw [aMPut, mPut, ← e, if_pos c, if_pos c, ix_nI (by omega), ix_nI (by omega), f1.2.1 75 (by decide), h6, ix_nI (by omega)] at qm
    refine both_t (dc := 4) (dm := 3) (by decide) (by decide) qc qm ?_
    obtain ⟨T, hT⟩ : ∃ T, sj S1 77 (va_up (S1.2.2 77) (j * 60 + k) (lowb t v)) = T := ⟨_, rfl⟩
    have f2 : Frm [] [] [77] S1 T := by rw [← hT]; exact (Frm.rf S1).sj (by decide) _
    have a77 : T.2.2 77 = va_up (S.2.2 77) (j * 60 + k) (lowb t v) := by rw [← f1.2.2 77 (by decide), ← hT]; rfl
    have a10' : T.2.2 10 = va_up (S.2.2 10) (j * 60 + k) (lowb t v) := by rw [f2.2.2 10 (by decide), a10]
    have f : Frm [] [] [10, 77] S T := (f1.wk (by decide) (by decide) (by decide)).tr (f2.wk (by decide) (by decide) (by decide))
    rw [hT]
    have h8' : B8 T kn := by
      refine h.b8.up (j := j) (fun a ha hne => ?_) ?_
      · rw [f.2.1 8 (by decide), f.2.1 9 (by decide), f.2.1 74 (by decide), f.2.1 75 (by decide), f.2.1 76 (by decide)]
        refine ⟨rfl, rfl, rfl, rfl, rfl, fun i hi => ⟨?_, ?_⟩⟩
        · rw [a10', vJ_n _ _ _ (by omega)]
        · rw [a77, vJ_n _ _ _ (by omega)]
      · unfold shR2
        rw [f.2.1 8 (by decide), f.2.1 9 (by decide), f.2.1 74 (by decide), f.2.1 75 (by decide), f.2.1 76 (by decide)]
        refine Or.inr (Or.inr ⟨t, l, ht, hl, h3, h4, h5, h6, h7, fun i hi => ?_⟩)
        rw [a10', a77]
        by_cases ce : j * 60 + i = j * 60 + k
        · rw [ce, vJ_1, vJ_1]; exact ⟨rfl, fun q => by subst q; exact low_low v⟩
        · rw [vJ_n _ _ _ ce, vJ_n _ _ _ ce]; exact h9 i hi
    exact ⟨wk, rn, dn, tp, T0, T1, T2, lo, tn, nd, nu, kn, ra, ⟨h.b1.fr f (by decide) (by decide) (by decide), h.b2.fr f (by decide) (by decide), h.b3.fr f (by decide) (by decide), h.b4.fr f (by decide), h.b5.fr f (by decide) (by decide), h.b6.fr f (by decide) (by decide), h.b7.fr f (by decide) (by decide), h8'⟩⟩
  · rw [aPut, sPut, if_neg c, if_neg c] at qc
    have e := rfs_eq (S1 := S) h.b8 k50 rfl rfl s i
    have qm := pX12_put (S := S) h.b8.shM k50 s i v
    rw [aMPut, mPut, ← e, if_neg c, if_neg c] at qm
    exact both_0 (dc := 4) (dm := 3) h0 (by decide) (by decide) qc qm
theorem bo_element {S : k_S} (h : RRx S) (s i : Int32) : Both MX11_element MX12_element [.int s, .int i] S := by
  have h0 := h
  obtain ⟨wk, rn, dn, tp, T0, T1, T2, lo, tn, nd, nu, kn, ra, h⟩ := h
  have b := h.b1
  have k50 := h.b7.kdC.2.1
  have qc := pX11_element (S := S) h.b8.shC s i
  have qm := pX12_element (S := S) h.b8.shM k50 s i
  have e := rfs_eq (S1 := S) h.b8 k50 rfl rfl s i
  have e2 : aElt S s i = aMElt S s i := by
    rw [aElt, aMElt, ← e]
    by_cases c : rfs S s i = 0
    · obtain ⟨j, k, t, l, hj, hk, rfl, rfl, ht, hl, h3, h4, h5, h6, h7, h9⟩ := rfs_e2 h.b8 c
      rw [if_pos c, if_pos c, ix_nI (by omega), ix_nI (by omega)]; exact (h9 k (by omega)).1
    · rw [if_neg c, if_neg c]
  rw [← e2] at qm
  exact both_0 (dc := 4) (dm := 3) h0 (by decide) (by decide) qc qm
theorem bo_taken {S : k_S} (h : RRx S) (s k : Int32) : Both MX11_taken MX12_taken [.int s, .int k] S := by
  have h0 := h
  obtain ⟨wk, rn, dn, tp, T0, T1, T2, lo, tn, nd, nu, kn, ra, h⟩ := h
  have b := h.b1
  have k50 := h.b7.kdC.2.1
  have qc := pX11_taken (S := S) h.b8.shC h.b7.kdC s k
  have qm := pX12_taken (S := S) h.b8.shM h.b7.kdM s k
  have e2 : aTak S s k = aMTak S s k := by
    rw [aTak, aMTak]
    by_cases c : ¬ (pSh s ∧ pIn k (nI 0) (nI 7))
    · rw [if_pos c, if_pos c]
    · rw [if_neg c, if_neg c]
      obtain ⟨j, hj, rfl⟩ := pSh_ex (Classical.not_not.mp c).1
      rw [ix_nI (by omega), aTaN, aMTaN]
      rcases h.b8 j hj with ⟨q1, q2⟩ | ⟨p, h1, h2, h3, h4⟩ | ⟨s, l, h1, h2, h3, h4, h5, h6, h7, h9⟩
      · rw [if_pos q1, if_pos q2]
      · have n1 : ¬ (-1 : Int32) = -2 := by decide
        have n2 : ¬ ¬ (-1 : Int32) = -1 := by decide
        have n3 : ¬ nI p = -1 := nI_ne1 (by omega)
        have n4 : ¬ ¬ 0 ≤ nI p := not_not_intro (nI_n0 (by omega))
        rw [h2, h3, h4, h.b7.kds, if_neg n1, if_neg n2, if_neg n3, if_neg n4]
      · rw [if_neg (by rw [h3]; exact nI_ne2 (by omega)), if_pos (by rw [h3]; exact nI_ne1 (by omega)), if_neg (by rw [h5]; decide), if_pos (by rw [h5]; decide)]
  rw [← e2] at qm
  exact both_0 (dc := 3) (dm := 2) h0 (by decide) (by decide) qc qm
theorem mv_mm {S S1 : k_S} {a i b j n : Nat} (g77 : S1.2.2 77 = S.2.2 77) (h : ∀ k, k < n → S.2.2 10 (a * 60 + (i + k)) = S.2.2 77 (a * 60 + (i + k))) (k : Nat) (hk : k < n) : mvA S a i n k = S.2.2 10 (a * 60 + (i + k)) ∧ mmA S1 a i n k = S.2.2 77 (a * 60 + (i + k)) := by
  rw [mvA, mmA, fillJ_at, fillJ_at, if_pos (by omega), if_pos (by omega), g77]; exact ⟨rfl, rfl⟩
theorem bo_shift {S : k_S} (h : RRx S) (s i o j n : Int32) : Both MX11_shift MX12_shift [.int s, .int i, .int o, .int j, .int n] S := by
  have h0 := h
  obtain ⟨wk, rn, dn, tp, T0, T1, T2, lo, tn, nd, nu, kn, ra, h⟩ := h
  have b := h.b1
  have k50 := h.b7.kdC.2.1
  have qc := pX11_shift (S := S) h.b8.shC s i o j n
  by_cases c : ¬ (pSh s ∧ pSh o)
  · rw [aShf, sShf, if_pos c, if_pos c] at qc
    have qm := pX12_shift (S := S) h.b8.shM k50 s i o j n
    rw [aMShf, mShf, if_pos c, if_pos c] at qm
    exact both_0 (dc := 3) (dm := 2) h0 (by decide) (by decide) qc qm
  rw [aShf, sShf, if_neg c, if_neg c] at qc
  obtain ⟨a, ha, rfl⟩ := pSh_ex (Classical.not_not.mp c).1
  obtain ⟨b, hb, rfl⟩ := pSh_ex (Classical.not_not.mp c).2
  have qm := fun (S1 : k_S) (hs1 : mShOk S1 kn) => pX12_shift (S := S1) hs1 k50 (nI a) i (nI b) j n
  simp only [aMShf, mShf] at qm
  rw [aShN, sShN, ix_nI (show a < 2 ^ 31 by omega), ix_nI (show b < 2 ^ 31 by omega)] at qc
  have hl1 : ∀ a, a < 6 → (S.2.1 8 a = -2 ↔ S.2.1 74 a = -1) ∧ (0 ≤ S.2.1 8 a ↔ S.2.1 74 a = -2) ∧ (0 ≤ S.2.1 8 a → ∃ t l, t < 5 ∧ l ≤ 60 ∧ S.2.1 8 a = nI t ∧ S.2.1 75 a = nI t ∧ S.2.1 9 a = nI l ∧ S.2.1 76 a = nI l ∧ ∀ i, i < 60 → S.2.2 10 (a * 60 + i) = S.2.2 77 (a * 60 + i) ∧ (t = 0 → lowb 0 (S.2.2 10 (a * 60 + i)) = S.2.2 10 (a * 60 + i))) := by
    intro a ha
    rcases h.b8 a ha with ⟨q1, q2⟩ | ⟨p, h1, h2, h3, h4⟩ | ⟨s, l, h1, h2, h3, h4, h5, h6, h7, h9⟩
    · rw [q1, q2]; exact ⟨⟨fun _ => rfl, fun _ => rfl⟩, ⟨fun q => absurd q (by decide), fun q => absurd q (by decide)⟩, fun q => absurd q (by decide)⟩
    · rw [h2, h4]; exact ⟨⟨fun q => absurd q (by decide), fun q => absurd q (nI_ne1 (by omega))⟩, ⟨fun q => absurd q (by decide), fun q => absurd q (nI_ne2 (by omega))⟩, fun q => absurd q (by decide)⟩
    · exact ⟨⟨fun q => absurd (h3.symm.trans q) (nI_ne2 (by omega)), fun q => absurd (h5.symm.trans q) (by decide)⟩, ⟨fun _ => h5, fun _ => by rw [h3]; exact nI_n0 (by omega)⟩, fun _ => ⟨s, l, h1, h2, h3, h6, h4, h7, h9⟩⟩
  obtain ⟨A1, A2, A3⟩ := hl1 a ha
  obtain ⟨B1', B2', B3'⟩ := hl1 b hb
  by_cases c1 : S.2.1 8 a = -2 ∨ S.2.1 8 b = -2
  · rw [if_pos c1, if_pos c1] at qc
    have q := qm S h.b8.shM
    have d1 : S.2.1 74 a = -1 ∨ S.2.1 74 b = -1 := by rw [A1, B1'] at c1; exact c1
    rw [if_neg c, if_neg c, aMShN, mShN, ix_nI (show a < 2 ^ 31 by omega), ix_nI (show b < 2 ^ 31 by omega), if_pos d1, if_pos d1] at q
    exact both_0 (dc := 3) (dm := 2) h0 (by decide) (by decide) qc q
  rw [if_neg c1, if_neg c1] at qc
  have d1 : ¬ (S.2.1 74 a = -1 ∨ S.2.1 74 b = -1) := by rw [A1, B1'] at c1; exact c1
  by_cases c2 : 0 ≤ S.2.1 8 a ∧ 0 ≤ S.2.1 8 b ∧ S.2.1 8 a = S.2.1 8 b
  · rw [if_neg (not_not_intro c2), if_neg (not_not_intro c2)] at qc
    obtain ⟨t, l, ht, hl, a1, a2, a3, a4, a5⟩ := A3 c2.1
    obtain ⟨t', l', ht', hl', b1, b2, b3, b4, b5⟩ := B3' c2.2.1
    have d2 : S.2.1 74 a = -2 ∧ S.2.1 74 b = -2 ∧ S.2.1 75 a = S.2.1 75 b := ⟨A2.mp c2.1, B2'.mp c2.2.1, by rw [a2, b2, ← a1, ← b1]; exact c2.2.2⟩
    by_cases c3 : pStr S a i n ∧ pStr S b j n
    · rw [if_neg (not_not_intro c3), if_neg (not_not_intro c3)] at qc
      obtain ⟨i', n', rfl, rfl, hin⟩ := str_ex a3 hl c3.1
      obtain ⟨j', n2, rfl, en, hjn⟩ := str_ex b3 hl' c3.2
      have en2 : n2 = n' := by
        have q := congrArg Int32.toInt en
        rw [nI_toInt (by omega), nI_toInt (by omega)] at q; omega
      subst en2
      rw [ix_nI (by omega), ix_nI (by omega), ix_nI (by omega)] at qc
      obtain ⟨S1, hS1⟩ : ∃ S1, mvS S a i' b j' n2 = S1 := ⟨_, rfl⟩
      have f1 : Frm [] [] [10, 11] S S1 := by rw [← hS1]; exact ((Frm.rf S).sj (by decide) _).sj (by decide) _
      have a10 : S1.2.2 10 = fillJ (mvA S a i' n2) (b * 60 + j') (S.2.2 10) n2 := by rw [← hS1]; rfl
      rw [hS1] at qc
      have hs1 : mShOk S1 kn := by
        intro a ha
        rw [f1.2.1 74 (by decide), f1.2.1 75 (by decide), f1.2.1 76 (by decide)]; exact h.b8.shM a ha
      have q := qm S1 hs1
      have d3 : pMStr S1 a (nI i') b (nI j') (nI n2) := by
        rw [pMStr, f1.2.1 76 (by decide), a4, b4, ← a3, ← b3]
        exact ⟨Int32.not_lt.mpr c3.1.2.1, Int32.not_lt.mpr c3.1.1, Int32.not_lt.mpr c3.2.1, c3.1.2.2.1, c3.2.2.2.1, c3.1.2.2.2, c3.2.2.2.2⟩
      rw [← f1.2.1 74 (by decide)] at d1 d2
      rw [← f1.2.1 75 (by decide)] at d2
      rw [if_neg c, if_neg c, aMShN, mShN, ix_nI (show a < 2 ^ 31 by omega), ix_nI (show b < 2 ^ 31 by omega), if_neg d1, if_neg d1, if_neg (not_not_intro d2), if_neg (not_not_intro d2), if_neg (not_not_intro d3), if_neg (not_not_intro d3), ix_nI (by omega), ix_nI (by omega), ix_nI (by omega)] at q
      refine both_t (dc := 3) (dm := 2) (by decide) (by decide) qc q ?_
      obtain ⟨T, hT⟩ : ∃ T, mmS S1 a i' b j' n2 = T := ⟨_, rfl⟩
      have f2 : Frm [] [] [77, 86] S1 T := by rw [← hT]; exact ((Frm.rf S1).sj (by decide) _).sj (by decide) _
      have a77 : T.2.2 77 = fillJ (mmA S1 a i' n2) (b * 60 + j') (S.2.2 77) n2 := by rw [← f1.2.2 77 (by decide), ← hT]; rfl
      have a10' : T.2.2 10 = fillJ (mvA S a i' n2) (b * 60 + j') (S.2.2 10) n2 := by rw [f2.2.2 10 (by decide), a10]
      have f : Frm [] [] [10, 11, 77, 86] S T := (f1.wk (by decide) (by decide) (by decide)).tr (f2.wk (by decide) (by decide) (by decide))
      rw [hT]
      have h8' : B8 T kn := by
        refine h.b8.up (j := b) (fun k hk hne => ?_) ?_
        · rw [f.2.1 8 (by decide), f.2.1 9 (by decide), f.2.1 74 (by decide), f.2.1 75 (by decide), f.2.1 76 (by decide)]
          refine ⟨rfl, rfl, rfl, rfl, rfl, fun i hi => ⟨?_, ?_⟩⟩
          · rw [a10', fillJ_at, if_neg (by omega)]
          · rw [a77, fillJ_at, if_neg (by omega)]
        · unfold shR2
          rw [f.2.1 8 (by decide), f.2.1 9 (by decide), f.2.1 74 (by decide), f.2.1 75 (by decide), f.2.1 76 (by decide)]
          refine Or.inr (Or.inr ⟨t', l', ht', hl', b1, b3, B2'.mp c2.2.1, b2, b4, fun x hx => ?_⟩)
          rw [a10', a77, fillJ_at, fillJ_at]
          by_cases ce : b * 60 + j' ≤ b * 60 + x ∧ b * 60 + x < b * 60 + j' + n2
          · rw [if_pos ce, if_pos ce]
            have hk : b * 60 + x - (b * 60 + j') < n2 := by omega
            generalize b * 60 + x - (b * 60 + j') = k at hk
            have q1 := mv_mm (S := S) (S1 := S1) (a := a) (i := i') (b := b) (j := j') (n := n2) (f1.2.2 77 (by decide)) (fun k hk => (a5 (i' + k) (by omega)).1) k hk
            rw [q1.1, q1.2]
            refine ⟨(a5 (i' + k) (by omega)).1, fun q0 => (a5 (i' + k) (by omega)).2 ?_⟩
            have q9 := congrArg Int32.toInt (a1.symm.trans (c2.2.2.trans b1))
            rw [nI_toInt (by omega), nI_toInt (by omega)] at q9; omega
          · rw [if_neg ce, if_neg ce]; exact b5 x hx
      exact ⟨wk, rn, dn, tp, T0, T1, T2, lo, tn, nd, nu, kn, ra, ⟨h.b1.fr f (by decide) (by decide) (by decide), h.b2.fr f (by decide) (by decide), h.b3.fr f (by decide) (by decide), h.b4.fr f (by decide), h.b5.fr f (by decide) (by decide), h.b6.fr f (by decide) (by decide), h.b7.fr f (by decide) (by decide), h8'⟩⟩
    · rw [if_pos c3, if_pos c3] at qc
      have q := qm S h.b8.shM
      have d3 : ¬ pMStr S a i b j n := by
        rw [pMStr, a4, b4, ← a3, ← b3]
        exact fun w => c3 ⟨⟨Int32.not_lt.mp w.2.1, Int32.not_lt.mp w.1, w.2.2.2.1, w.2.2.2.2.2.1⟩, ⟨Int32.not_lt.mp w.2.2.1, Int32.not_lt.mp w.1, w.2.2.2.2.1, w.2.2.2.2.2.2⟩⟩
      rw [if_neg c, if_neg c, aMShN, mShN, ix_nI (show a < 2 ^ 31 by omega), ix_nI (show b < 2 ^ 31 by omega), if_neg d1, if_neg d1, if_neg (not_not_intro d2), if_neg (not_not_intro d2), if_pos d3, if_pos d3] at q
      exact both_0 (dc := 3) (dm := 2) h0 (by decide) (by decide) qc q
  · rw [if_pos c2, if_pos c2] at qc
    have q := qm S h.b8.shM
    have d2 : ¬ (S.2.1 74 a = -2 ∧ S.2.1 74 b = -2 ∧ S.2.1 75 a = S.2.1 75 b) := by
      intro w
      have w1 := A2.mpr w.1
      have w2 := B2'.mpr w.2.1
      obtain ⟨t, l, ht, hl, a1, a2, a3, a4, a5⟩ := A3 w1
      obtain ⟨t', l', ht', hl', b1, b2, b3, b4, b5⟩ := B3' w2
      exact c2 ⟨w1, w2, by rw [a1, b1, ← a2, ← b2]; exact w.2.2⟩
    rw [if_neg c, if_neg c, aMShN, mShN, ix_nI (show a < 2 ^ 31 by omega), ix_nI (show b < 2 ^ 31 by omega), if_neg d1, if_neg d1, if_pos d2, if_pos d2] at q
    exact both_0 (dc := 3) (dm := 2) h0 (by decide) (by decide) qc q
