/-- what a change may be -/
def chN5 (s p c : Nat) (b v : Int32) : Prop := (s = 0 ∧ c = p ∧ p < 120 ∧ ∃ x y, x < 6 ∧ y < 6 ∧ b = nI x ∧ v = nI y) ∨ (s = 1 ∧ c = 120 + p ∧ 1 ≤ p ∧ p < 6 ∧ ∃ x y, x ≤ 99 ∧ y ≤ 99 ∧ b = nI x ∧ v = nI y) ∨ (s = 2 ∧ c = 130 + p ∧ 1 ≤ p ∧ p < 6 ∧ ∃ x y, x ≤ 99 ∧ y ≤ 99 ∧ b = nI x ∧ v = nI y)
theorem tell_B6 {S T : k_S} {nd nu m : Nat} (h : B6 S nd nu) {g : (Nat → Int32) → Nat → Int32} {σ : Nat → Nat} {s p c : Nat} {b v : Int32} (hm : m + 1 ≤ 40) (hσ : ∀ k, k < m → σ k < nd + nu) (hg : ∀ f k, k < m → g f k = f (σ k)) (t34 : T.2.1 34 = va_up (g (S.2.1 34)) m (nI s)) (t35 : T.2.1 35 = va_up (g (S.2.1 35)) m (nI p)) (t36 : T.2.1 36 = va_up (g (S.2.1 36)) m b) (t37 : T.2.1 37 = va_up (g (S.2.1 37)) m v) (t69 : T.2.1 69 = va_up (g (S.2.1 69)) m (nI c)) (t70 : T.2.1 70 = va_up (g (S.2.1 70)) m b) (t71 : T.2.1 71 = va_up (g (S.2.1 71)) m v) (i1 : T.1 1656 = nI (m + 1)) (i2 : T.1 1657 = nI 0) (i3 : T.1 2626 = nI (m + 1)) (i4 : T.1 2625 = nI (m + 1)) (hn : chN5 s p c b v) : B6 T (m + 1) 0 := by
  refine ⟨i1, i2, i3, i4, by omega, by rw [t36, t70, h.was], by rw [t37, t71, h.now], fun k hk => ?_⟩
  unfold chOk
  rw [t34, t35, t36, t37, t69]
  by_cases e : k = m
  · subst e
    rw [va_a1, va_a1, va_a1, va_a1, va_a1]
    rcases hn with ⟨rfl, rfl, a1, x, y, a2, a3, rfl, rfl⟩ | ⟨rfl, rfl, a1, a1', x, y, a2, a3, rfl, rfl⟩ | ⟨rfl, rfl, a1, a1', x, y, a2, a3, rfl, rfl⟩
    · exact Or.inl ⟨_, x, y, a1, a2, a3, rfl, rfl, rfl, rfl, rfl⟩
    · exact Or.inr (Or.inl ⟨_, x, y, a1, a1', a2, a3, rfl, rfl, rfl, rfl, rfl⟩)
    · exact Or.inr (Or.inr ⟨_, x, y, a1, a1', a2, a3, rfl, rfl, rfl, rfl, rfl⟩)
  · have hk2 : k < m := by omega
    rw [va_ne _ _ e, va_ne _ _ e, va_ne _ _ e, va_ne _ _ e, va_ne _ _ e, hg _ k hk2, hg _ k hk2, hg _ k hk2, hg _ k hk2, hg _ k hk2]
    exact h.chs (σ k) (hσ k hk2)
theorem va_id (f : Nat → Int32) (p : Nat) {v : Int32} (h : f p = v) : va_up f p v = f := by
  funext k
  by_cases e : k = p
  · subst e; rw [va_a1, h]
  · rw [va_ne _ _ e]
theorem tell0 {S : k_S} {nd nu : Nat} (h6 : B6 S nd nu) {p : Nat} {v : Int32} (hrow : S.2.1 25 = S.2.1 61) (hn : chN5 0 p p (S.2.1 25 p) v) : ∃ nd2 nu2, Frm [1656, 1657, 2626, 2625] [34, 35, 36, 37, 69, 70, 71, 25, 61] [] S (mtlU (tlU S nd 25 0 p v) nd 61 p p v) ∧ (mtlU (tlU S nd 25 0 p v) nd 61 p p v).2.1 25 = va_up (S.2.1 25) p v ∧ (mtlU (tlU S nd 25 0 p v) nd 61 p p v).2.1 61 = va_up (S.2.1 61) p v ∧ B6 (mtlU (tlU S nd 25 0 p v) nd 61 p p v) nd2 nu2 := by
  have n40 := h6.n40
  by_cases c : S.2.1 25 p = v
  · have c' : S.2.1 61 p = v := by rw [← hrow]; exact c
    rw [tlU, if_pos c, mtlU, if_pos c']
    exact ⟨nd, nu, Frm.rf S, (va_id _ p c).symm, (va_id _ p c').symm, h6⟩
  by_cases c2 : nd = 40
  · rw [show tlU S nd 25 0 p v = sa (chP (drS (si S 1657 (nI 0))) 39 0 p (S.2.1 25 p) v) 25 (va_up (S.2.1 25) p v) from by rw [tlU, if_neg c, if_pos c2]]
    obtain ⟨S1, hS1⟩ : ∃ S1, sa (chP (drS (si S 1657 (nI 0))) 39 0 p (S.2.1 25 p) v) 25 (va_up (S.2.1 25) p v) = S1 := ⟨_, rfl⟩
    have f1 : Frm [1656, 1657] [34, 35, 36, 37, 25] [] S S1 := by
      rw [← hS1]
      have fd : Frm [] [34, 35, 36, 37] [] (si S 1657 (nI 0)) (drT (si S 1657 (nI 0)) 39) := ⟨fun k _ => congrFun (drT_1 _ 39) k, fun k hk => drT_2 _ (by simpa using hk) 39, fun k _ => congrFun (drT_3 _ 39) k⟩
      exact (((((((((Frm.rf S).si (by decide) _).tr (fd.wk (by decide) (by decide) (by decide))).si (by decide) _).sa (by decide) _).sa (by decide) _).sa (by decide) _).sa (by decide) _).si (by decide) _).sa (by decide) _
    have x34 : S1.2.1 34 = va_up ((fun f => shN f 39) (S.2.1 34)) 39 (nI 0) := by rw [← hS1]; exact congrArg (fun z => va_up z 39 _) (drT_34 (si S 1657 (nI 0)) 39)
    have x35 : S1.2.1 35 = va_up ((fun f => shN f 39) (S.2.1 35)) 39 (nI p) := by rw [← hS1]; exact congrArg (fun z => va_up z 39 _) (drT_35 (si S 1657 (nI 0)) 39)
    have x36 : S1.2.1 36 = va_up ((fun f => shN f 39) (S.2.1 36)) 39 (S.2.1 25 p) := by rw [← hS1]; exact congrArg (fun z => va_up z 39 _) (drT_36 (si S 1657 (nI 0)) 39)
    have x37 : S1.2.1 37 = va_up ((fun f => shN f 39) (S.2.1 37)) 39 v := by rw [← hS1]; exact congrArg (fun z => va_up z 39 _) (drT_37 (si S 1657 (nI 0)) 39)
    have xa : S1.2.1 25 = va_up (S.2.1 25) p v := by rw [← hS1]; rfl
    have xi1 : S1.1 1656 = nI (39 + 1) := by rw [← hS1]; rfl
    have xi2 : S1.1 1657 = nI 0 := by rw [← hS1]; exact (congrFun (drT_1 (si S 1657 (nI 0)) 39) 1657)
    rw [hS1]
    have e2 : S1.2.1 61 = S.2.1 61 := f1.2.1 61 (by decide)
    have hne2 : ¬ S1.2.1 61 p = v := by rw [e2, ← hrow]; exact c
    obtain ⟨T, hT⟩ : ∃ T, sa (mchP (mdrS S1) 39 p (S1.2.1 61 p) v) 61 (va_up (S1.2.1 61) p v) = T := ⟨_, rfl⟩
    have eM : mtlU S1 nd 61 p p v = T := by rw [mtlU, if_neg hne2, if_pos c2]; exact hT
    rw [eM]
    have f2 : Frm [2626, 2625] [69, 70, 71, 61] [] S1 T := by
      rw [← hT]
      exact (((((((((Frm.rf S1).sa (by decide) _).sa (by decide) _).sa (by decide) _).si (by decide) _).sa (by decide) _).sa (by decide) _).sa (by decide) _).si (by decide) _).si (by decide) _ |>.sa (by decide) _
    have f : Frm [1656, 1657, 2626, 2625] [34, 35, 36, 37, 69, 70, 71, 25, 61] [] S T := (f1.wk (by decide) (by decide) (by decide)).tr (f2.wk (by decide) (by decide) (by decide))
    refine ⟨39 + 1, 0, f, (f2.2.1 25 (by decide)).trans xa, ?_, ?_⟩
    · rw [← hT, ← e2]; rfl
    · refine tell_B6 (g := (fun f => shN f 39)) (σ := (· + 1)) (m := 39) h6 (by omega) (fun k hk => by omega) (fun f k hk => by show shN f 39 k = _; rw [shN_at, if_pos hk]) ((f2.2.1 34 (by decide)).trans x34) ((f2.2.1 35 (by decide)).trans x35) ((f2.2.1 36 (by decide)).trans x36) ((f2.2.1 37 (by decide)).trans x37) ?_ ?_ ?_ ((f2.1 1656 (by decide)).trans xi1) ((f2.1 1657 (by decide)).trans xi2) (by rw [← hT]; rfl) (by rw [← hT]; rfl) hn
      · rw [← hT, ← f1.2.1 69 (by decide)]; rfl
      · rw [← hT, ← f1.2.1 70 (by decide), hrow, ← e2]; rfl
      · rw [← hT, ← f1.2.1 71 (by decide)]; rfl
  · rw [show tlU S nd 25 0 p v = sa (chP (si S 1657 (nI 0)) nd 0 p (S.2.1 25 p) v) 25 (va_up (S.2.1 25) p v) from by rw [tlU, if_neg c, if_neg c2]]
    obtain ⟨S1, hS1⟩ : ∃ S1, sa (chP (si S 1657 (nI 0)) nd 0 p (S.2.1 25 p) v) 25 (va_up (S.2.1 25) p v) = S1 := ⟨_, rfl⟩
    have f1 : Frm [1656, 1657] [34, 35, 36, 37, 25] [] S S1 := by
      rw [← hS1]
      exact (((((((Frm.rf S).si (by decide) _).sa (by decide) _).sa (by decide) _).sa (by decide) _).sa (by decide) _).si (by decide) _).sa (by decide) _
    have x34 : S1.2.1 34 = va_up ((fun f => f) (S.2.1 34)) nd (nI 0) := by rw [← hS1]; rfl
    have x35 : S1.2.1 35 = va_up ((fun f => f) (S.2.1 35)) nd (nI p) := by rw [← hS1]; rfl
    have x36 : S1.2.1 36 = va_up ((fun f => f) (S.2.1 36)) nd (S.2.1 25 p) := by rw [← hS1]; rfl
    have x37 : S1.2.1 37 = va_up ((fun f => f) (S.2.1 37)) nd v := by rw [← hS1]; rfl
    have xa : S1.2.1 25 = va_up (S.2.1 25) p v := by rw [← hS1]; rfl
    have xi1 : S1.1 1656 = nI (nd + 1) := by rw [← hS1]; rfl
    have xi2 : S1.1 1657 = nI 0 := by rw [← hS1]; rfl
    rw [hS1]
    have e2 : S1.2.1 61 = S.2.1 61 := f1.2.1 61 (by decide)
    have hne2 : ¬ S1.2.1 61 p = v := by rw [e2, ← hrow]; exact c
    obtain ⟨T, hT⟩ : ∃ T, sa (mchP S1 nd p (S1.2.1 61 p) v) 61 (va_up (S1.2.1 61) p v) = T := ⟨_, rfl⟩
    have eM : mtlU S1 nd 61 p p v = T := by rw [mtlU, if_neg hne2, if_neg c2]; exact hT
    rw [eM]
    have f2 : Frm [2626, 2625] [69, 70, 71, 61] [] S1 T := by
      rw [← hT]
      exact ((((((Frm.rf S1).sa (by decide) _).sa (by decide) _).sa (by decide) _).si (by decide) _).si (by decide) _).sa (by decide) _
    have f : Frm [1656, 1657, 2626, 2625] [34, 35, 36, 37, 69, 70, 71, 25, 61] [] S T := (f1.wk (by decide) (by decide) (by decide)).tr (f2.wk (by decide) (by decide) (by decide))
    refine ⟨nd + 1, 0, f, (f2.2.1 25 (by decide)).trans xa, ?_, ?_⟩
    · rw [← hT, ← e2]; rfl
    · refine tell_B6 (g := (fun f => f)) (σ := (fun k => k)) (m := nd) h6 (by omega) (fun k hk => by omega) (fun f k hk => rfl) ((f2.2.1 34 (by decide)).trans x34) ((f2.2.1 35 (by decide)).trans x35) ((f2.2.1 36 (by decide)).trans x36) ((f2.2.1 37 (by decide)).trans x37) ?_ ?_ ?_ ((f2.1 1656 (by decide)).trans xi1) ((f2.1 1657 (by decide)).trans xi2) (by rw [← hT]; rfl) (by rw [← hT]; rfl) hn
      · rw [← hT, ← f1.2.1 69 (by decide)]; rfl
      · rw [← hT, ← f1.2.1 70 (by decide), hrow, ← e2]; rfl
      · rw [← hT, ← f1.2.1 71 (by decide)]; rfl
theorem tell1 {S : k_S} {nd nu : Nat} (h6 : B6 S nd nu) {p : Nat} {v : Int32} (hrow : S.2.1 17 = S.2.1 53) (hn : chN5 1 p (120 + p) (S.2.1 17 p) v) : ∃ nd2 nu2, Frm [1656, 1657, 2626, 2625] [34, 35, 36, 37, 69, 70, 71, 17, 53] [] S (mtlU (tlU S nd 17 1 p v) nd 53 p (120 + p) v) ∧ (mtlU (tlU S nd 17 1 p v) nd 53 p (120 + p) v).2.1 17 = va_up (S.2.1 17) p v ∧ (mtlU (tlU S nd 17 1 p v) nd 53 p (120 + p) v).2.1 53 = va_up (S.2.1 53) p v ∧ B6 (mtlU (tlU S nd 17 1 p v) nd 53 p (120 + p) v) nd2 nu2 := by
  have n40 := h6.n40
  by_cases c : S.2.1 17 p = v
  · have c' : S.2.1 53 p = v := by rw [← hrow]; exact c
    rw [tlU, if_pos c, mtlU, if_pos c']
    exact ⟨nd, nu, Frm.rf S, (va_id _ p c).symm, (va_id _ p c').symm, h6⟩
  by_cases c2 : nd = 40
  · rw [show tlU S nd 17 1 p v = sa (chP (drS (si S 1657 (nI 0))) 39 1 p (S.2.1 17 p) v) 17 (va_up (S.2.1 17) p v) from by rw [tlU, if_neg c, if_pos c2]]
    obtain ⟨S1, hS1⟩ : ∃ S1, sa (chP (drS (si S 1657 (nI 0))) 39 1 p (S.2.1 17 p) v) 17 (va_up (S.2.1 17) p v) = S1 := ⟨_, rfl⟩
    have f1 : Frm [1656, 1657] [34, 35, 36, 37, 17] [] S S1 := by
      rw [← hS1]
      have fd : Frm [] [34, 35, 36, 37] [] (si S 1657 (nI 0)) (drT (si S 1657 (nI 0)) 39) := ⟨fun k _ => congrFun (drT_1 _ 39) k, fun k hk => drT_2 _ (by simpa using hk) 39, fun k _ => congrFun (drT_3 _ 39) k⟩
      exact (((((((((Frm.rf S).si (by decide) _).tr (fd.wk (by decide) (by decide) (by decide))).si (by decide) _).sa (by decide) _).sa (by decide) _).sa (by decide) _).sa (by decide) _).si (by decide) _).sa (by decide) _
    have x34 : S1.2.1 34 = va_up ((fun f => shN f 39) (S.2.1 34)) 39 (nI 1) := by rw [← hS1]; exact congrArg (fun z => va_up z 39 _) (drT_34 (si S 1657 (nI 0)) 39)
    have x35 : S1.2.1 35 = va_up ((fun f => shN f 39) (S.2.1 35)) 39 (nI p) := by rw [← hS1]; exact congrArg (fun z => va_up z 39 _) (drT_35 (si S 1657 (nI 0)) 39)
    have x36 : S1.2.1 36 = va_up ((fun f => shN f 39) (S.2.1 36)) 39 (S.2.1 17 p) := by rw [← hS1]; exact congrArg (fun z => va_up z 39 _) (drT_36 (si S 1657 (nI 0)) 39)
    have x37 : S1.2.1 37 = va_up ((fun f => shN f 39) (S.2.1 37)) 39 v := by rw [← hS1]; exact congrArg (fun z => va_up z 39 _) (drT_37 (si S 1657 (nI 0)) 39)
    have xa : S1.2.1 17 = va_up (S.2.1 17) p v := by rw [← hS1]; rfl
    have xi1 : S1.1 1656 = nI (39 + 1) := by rw [← hS1]; rfl
    have xi2 : S1.1 1657 = nI 0 := by rw [← hS1]; exact (congrFun (drT_1 (si S 1657 (nI 0)) 39) 1657)
    rw [hS1]
    have e2 : S1.2.1 53 = S.2.1 53 := f1.2.1 53 (by decide)
    have hne2 : ¬ S1.2.1 53 p = v := by rw [e2, ← hrow]; exact c
    obtain ⟨T, hT⟩ : ∃ T, sa (mchP (mdrS S1) 39 (120 + p) (S1.2.1 53 p) v) 53 (va_up (S1.2.1 53) p v) = T := ⟨_, rfl⟩
    have eM : mtlU S1 nd 53 p (120 + p) v = T := by rw [mtlU, if_neg hne2, if_pos c2]; exact hT
    rw [eM]
    have f2 : Frm [2626, 2625] [69, 70, 71, 53] [] S1 T := by
      rw [← hT]
      exact (((((((((Frm.rf S1).sa (by decide) _).sa (by decide) _).sa (by decide) _).si (by decide) _).sa (by decide) _).sa (by decide) _).sa (by decide) _).si (by decide) _).si (by decide) _ |>.sa (by decide) _
    have f : Frm [1656, 1657, 2626, 2625] [34, 35, 36, 37, 69, 70, 71, 17, 53] [] S T := (f1.wk (by decide) (by decide) (by decide)).tr (f2.wk (by decide) (by decide) (by decide))
    refine ⟨39 + 1, 0, f, (f2.2.1 17 (by decide)).trans xa, ?_, ?_⟩
    · rw [← hT, ← e2]; rfl
    · refine tell_B6 (g := (fun f => shN f 39)) (σ := (· + 1)) (m := 39) h6 (by omega) (fun k hk => by omega) (fun f k hk => by show shN f 39 k = _; rw [shN_at, if_pos hk]) ((f2.2.1 34 (by decide)).trans x34) ((f2.2.1 35 (by decide)).trans x35) ((f2.2.1 36 (by decide)).trans x36) ((f2.2.1 37 (by decide)).trans x37) ?_ ?_ ?_ ((f2.1 1656 (by decide)).trans xi1) ((f2.1 1657 (by decide)).trans xi2) (by rw [← hT]; rfl) (by rw [← hT]; rfl) hn
      · rw [← hT, ← f1.2.1 69 (by decide)]; rfl
      · rw [← hT, ← f1.2.1 70 (by decide), hrow, ← e2]; rfl
      · rw [← hT, ← f1.2.1 71 (by decide)]; rfl
  · rw [show tlU S nd 17 1 p v = sa (chP (si S 1657 (nI 0)) nd 1 p (S.2.1 17 p) v) 17 (va_up (S.2.1 17) p v) from by rw [tlU, if_neg c, if_neg c2]]
    obtain ⟨S1, hS1⟩ : ∃ S1, sa (chP (si S 1657 (nI 0)) nd 1 p (S.2.1 17 p) v) 17 (va_up (S.2.1 17) p v) = S1 := ⟨_, rfl⟩
    have f1 : Frm [1656, 1657] [34, 35, 36, 37, 17] [] S S1 := by
      rw [← hS1]
      exact (((((((Frm.rf S).si (by decide) _).sa (by decide) _).sa (by decide) _).sa (by decide) _).sa (by decide) _).si (by decide) _).sa (by decide) _
    have x34 : S1.2.1 34 = va_up ((fun f => f) (S.2.1 34)) nd (nI 1) := by rw [← hS1]; rfl
    have x35 : S1.2.1 35 = va_up ((fun f => f) (S.2.1 35)) nd (nI p) := by rw [← hS1]; rfl
    have x36 : S1.2.1 36 = va_up ((fun f => f) (S.2.1 36)) nd (S.2.1 17 p) := by rw [← hS1]; rfl
    have x37 : S1.2.1 37 = va_up ((fun f => f) (S.2.1 37)) nd v := by rw [← hS1]; rfl
    have xa : S1.2.1 17 = va_up (S.2.1 17) p v := by rw [← hS1]; rfl
    have xi1 : S1.1 1656 = nI (nd + 1) := by rw [← hS1]; rfl
    have xi2 : S1.1 1657 = nI 0 := by rw [← hS1]; rfl
    rw [hS1]
    have e2 : S1.2.1 53 = S.2.1 53 := f1.2.1 53 (by decide)
    have hne2 : ¬ S1.2.1 53 p = v := by rw [e2, ← hrow]; exact c
    obtain ⟨T, hT⟩ : ∃ T, sa (mchP S1 nd (120 + p) (S1.2.1 53 p) v) 53 (va_up (S1.2.1 53) p v) = T := ⟨_, rfl⟩
    have eM : mtlU S1 nd 53 p (120 + p) v = T := by rw [mtlU, if_neg hne2, if_neg c2]; exact hT
    rw [eM]
    have f2 : Frm [2626, 2625] [69, 70, 71, 53] [] S1 T := by
      rw [← hT]
      exact ((((((Frm.rf S1).sa (by decide) _).sa (by decide) _).sa (by decide) _).si (by decide) _).si (by decide) _).sa (by decide) _
    have f : Frm [1656, 1657, 2626, 2625] [34, 35, 36, 37, 69, 70, 71, 17, 53] [] S T := (f1.wk (by decide) (by decide) (by decide)).tr (f2.wk (by decide) (by decide) (by decide))
    refine ⟨nd + 1, 0, f, (f2.2.1 17 (by decide)).trans xa, ?_, ?_⟩
    · rw [← hT, ← e2]; rfl
    · refine tell_B6 (g := (fun f => f)) (σ := (fun k => k)) (m := nd) h6 (by omega) (fun k hk => by omega) (fun f k hk => rfl) ((f2.2.1 34 (by decide)).trans x34) ((f2.2.1 35 (by decide)).trans x35) ((f2.2.1 36 (by decide)).trans x36) ((f2.2.1 37 (by decide)).trans x37) ?_ ?_ ?_ ((f2.1 1656 (by decide)).trans xi1) ((f2.1 1657 (by decide)).trans xi2) (by rw [← hT]; rfl) (by rw [← hT]; rfl) hn
      · rw [← hT, ← f1.2.1 69 (by decide)]; rfl
      · rw [← hT, ← f1.2.1 70 (by decide), hrow, ← e2]; rfl
      · rw [← hT, ← f1.2.1 71 (by decide)]; rfl
theorem tell2 {S : k_S} {nd nu : Nat} (h6 : B6 S nd nu) {p : Nat} {v : Int32} (hrow : S.2.1 18 = S.2.1 54) (hn : chN5 2 p (130 + p) (S.2.1 18 p) v) : ∃ nd2 nu2, Frm [1656, 1657, 2626, 2625] [34, 35, 36, 37, 69, 70, 71, 18, 54] [] S (mtlU (tlU S nd 18 2 p v) nd 54 p (130 + p) v) ∧ (mtlU (tlU S nd 18 2 p v) nd 54 p (130 + p) v).2.1 18 = va_up (S.2.1 18) p v ∧ (mtlU (tlU S nd 18 2 p v) nd 54 p (130 + p) v).2.1 54 = va_up (S.2.1 54) p v ∧ B6 (mtlU (tlU S nd 18 2 p v) nd 54 p (130 + p) v) nd2 nu2 := by
  have n40 := h6.n40
  by_cases c : S.2.1 18 p = v
  · have c' : S.2.1 54 p = v := by rw [← hrow]; exact c
    rw [tlU, if_pos c, mtlU, if_pos c']
    exact ⟨nd, nu, Frm.rf S, (va_id _ p c).symm, (va_id _ p c').symm, h6⟩
  by_cases c2 : nd = 40
  · rw [show tlU S nd 18 2 p v = sa (chP (drS (si S 1657 (nI 0))) 39 2 p (S.2.1 18 p) v) 18 (va_up (S.2.1 18) p v) from by rw [tlU, if_neg c, if_pos c2]]
    obtain ⟨S1, hS1⟩ : ∃ S1, sa (chP (drS (si S 1657 (nI 0))) 39 2 p (S.2.1 18 p) v) 18 (va_up (S.2.1 18) p v) = S1 := ⟨_, rfl⟩
    have f1 : Frm [1656, 1657] [34, 35, 36, 37, 18] [] S S1 := by
      rw [← hS1]
      have fd : Frm [] [34, 35, 36, 37] [] (si S 1657 (nI 0)) (drT (si S 1657 (nI 0)) 39) := ⟨fun k _ => congrFun (drT_1 _ 39) k, fun k hk => drT_2 _ (by simpa using hk) 39, fun k _ => congrFun (drT_3 _ 39) k⟩
      exact (((((((((Frm.rf S).si (by decide) _).tr (fd.wk (by decide) (by decide) (by decide))).si (by decide) _).sa (by decide) _).sa (by decide) _).sa (by decide) _).sa (by decide) _).si (by decide) _).sa (by decide) _
    have x34 : S1.2.1 34 = va_up ((fun f => shN f 39) (S.2.1 34)) 39 (nI 2) := by rw [← hS1]; exact congrArg (fun z => va_up z 39 _) (drT_34 (si S 1657 (nI 0)) 39)
    have x35 : S1.2.1 35 = va_up ((fun f => shN f 39) (S.2.1 35)) 39 (nI p) := by rw [← hS1]; exact congrArg (fun z => va_up z 39 _) (drT_35 (si S 1657 (nI 0)) 39)
    have x36 : S1.2.1 36 = va_up ((fun f => shN f 39) (S.2.1 36)) 39 (S.2.1 18 p) := by rw [← hS1]; exact congrArg (fun z => va_up z 39 _) (drT_36 (si S 1657 (nI 0)) 39)
    have x37 : S1.2.1 37 = va_up ((fun f => shN f 39) (S.2.1 37)) 39 v := by rw [← hS1]; exact congrArg (fun z => va_up z 39 _) (drT_37 (si S 1657 (nI 0)) 39)
    have xa : S1.2.1 18 = va_up (S.2.1 18) p v := by rw [← hS1]; rfl
    have xi1 : S1.1 1656 = nI (39 + 1) := by rw [← hS1]; rfl
    have xi2 : S1.1 1657 = nI 0 := by rw [← hS1]; exact (congrFun (drT_1 (si S 1657 (nI 0)) 39) 1657)
    rw [hS1]
    have e2 : S1.2.1 54 = S.2.1 54 := f1.2.1 54 (by decide)
    have hne2 : ¬ S1.2.1 54 p = v := by rw [e2, ← hrow]; exact c
    obtain ⟨T, hT⟩ : ∃ T, sa (mchP (mdrS S1) 39 (130 + p) (S1.2.1 54 p) v) 54 (va_up (S1.2.1 54) p v) = T := ⟨_, rfl⟩
    have eM : mtlU S1 nd 54 p (130 + p) v = T := by rw [mtlU, if_neg hne2, if_pos c2]; exact hT
    rw [eM]
    have f2 : Frm [2626, 2625] [69, 70, 71, 54] [] S1 T := by
      rw [← hT]
      exact (((((((((Frm.rf S1).sa (by decide) _).sa (by decide) _).sa (by decide) _).si (by decide) _).sa (by decide) _).sa (by decide) _).sa (by decide) _).si (by decide) _).si (by decide) _ |>.sa (by decide) _
    have f : Frm [1656, 1657, 2626, 2625] [34, 35, 36, 37, 69, 70, 71, 18, 54] [] S T := (f1.wk (by decide) (by decide) (by decide)).tr (f2.wk (by decide) (by decide) (by decide))
    refine ⟨39 + 1, 0, f, (f2.2.1 18 (by decide)).trans xa, ?_, ?_⟩
    · rw [← hT, ← e2]; rfl
    · refine tell_B6 (g := (fun f => shN f 39)) (σ := (· + 1)) (m := 39) h6 (by omega) (fun k hk => by omega) (fun f k hk => by show shN f 39 k = _; rw [shN_at, if_pos hk]) ((f2.2.1 34 (by decide)).trans x34) ((f2.2.1 35 (by decide)).trans x35) ((f2.2.1 36 (by decide)).trans x36) ((f2.2.1 37 (by decide)).trans x37) ?_ ?_ ?_ ((f2.1 1656 (by decide)).trans xi1) ((f2.1 1657 (by decide)).trans xi2) (by rw [← hT]; rfl) (by rw [← hT]; rfl) hn
      · rw [← hT, ← f1.2.1 69 (by decide)]; rfl
      · rw [← hT, ← f1.2.1 70 (by decide), hrow, ← e2]; rfl
      · rw [← hT, ← f1.2.1 71 (by decide)]; rfl
  · rw [show tlU S nd 18 2 p v = sa (chP (si S 1657 (nI 0)) nd 2 p (S.2.1 18 p) v) 18 (va_up (S.2.1 18) p v) from by rw [tlU, if_neg c, if_neg c2]]
    obtain ⟨S1, hS1⟩ : ∃ S1, sa (chP (si S 1657 (nI 0)) nd 2 p (S.2.1 18 p) v) 18 (va_up (S.2.1 18) p v) = S1 := ⟨_, rfl⟩
    have f1 : Frm [1656, 1657] [34, 35, 36, 37, 18] [] S S1 := by
      rw [← hS1]
      exact (((((((Frm.rf S).si (by decide) _).sa (by decide) _).sa (by decide) _).sa (by decide) _).sa (by decide) _).si (by decide) _).sa (by decide) _
    have x34 : S1.2.1 34 = va_up ((fun f => f) (S.2.1 34)) nd (nI 2) := by rw [← hS1]; rfl
    have x35 : S1.2.1 35 = va_up ((fun f => f) (S.2.1 35)) nd (nI p) := by rw [← hS1]; rfl
    have x36 : S1.2.1 36 = va_up ((fun f => f) (S.2.1 36)) nd (S.2.1 18 p) := by rw [← hS1]; rfl
    have x37 : S1.2.1 37 = va_up ((fun f => f) (S.2.1 37)) nd v := by rw [← hS1]; rfl
    have xa : S1.2.1 18 = va_up (S.2.1 18) p v := by rw [← hS1]; rfl
    have xi1 : S1.1 1656 = nI (nd + 1) := by rw [← hS1]; rfl
    have xi2 : S1.1 1657 = nI 0 := by rw [← hS1]; rfl
    rw [hS1]
    have e2 : S1.2.1 54 = S.2.1 54 := f1.2.1 54 (by decide)
    have hne2 : ¬ S1.2.1 54 p = v := by rw [e2, ← hrow]; exact c
    obtain ⟨T, hT⟩ : ∃ T, sa (mchP S1 nd (130 + p) (S1.2.1 54 p) v) 54 (va_up (S1.2.1 54) p v) = T := ⟨_, rfl⟩
    have eM : mtlU S1 nd 54 p (130 + p) v = T := by rw [mtlU, if_neg hne2, if_neg c2]; exact hT
    rw [eM]
    have f2 : Frm [2626, 2625] [69, 70, 71, 54] [] S1 T := by
      rw [← hT]
      exact ((((((Frm.rf S1).sa (by decide) _).sa (by decide) _).sa (by decide) _).si (by decide) _).si (by decide) _).sa (by decide) _
    have f : Frm [1656, 1657, 2626, 2625] [34, 35, 36, 37, 69, 70, 71, 18, 54] [] S T := (f1.wk (by decide) (by decide) (by decide)).tr (f2.wk (by decide) (by decide) (by decide))
    refine ⟨nd + 1, 0, f, (f2.2.1 18 (by decide)).trans xa, ?_, ?_⟩
    · rw [← hT, ← e2]; rfl
    · refine tell_B6 (g := (fun f => f)) (σ := (fun k => k)) (m := nd) h6 (by omega) (fun k hk => by omega) (fun f k hk => rfl) ((f2.2.1 34 (by decide)).trans x34) ((f2.2.1 35 (by decide)).trans x35) ((f2.2.1 36 (by decide)).trans x36) ((f2.2.1 37 (by decide)).trans x37) ?_ ?_ ?_ ((f2.1 1656 (by decide)).trans xi1) ((f2.1 1657 (by decide)).trans xi2) (by rw [← hT]; rfl) (by rw [← hT]; rfl) hn
      · rw [← hT, ← f1.2.1 69 (by decide)]; rfl
      · rw [← hT, ← f1.2.1 70 (by decide), hrow, ← e2]; rfl
      · rw [← hT, ← f1.2.1 71 (by decide)]; rfl
theorem tlU_fr0 {S : k_S} {nd p : Nat} {v : Int32} : Frm [1656, 1657] [34, 35, 36, 37, 25] [] S (tlU S nd 25 0 p v) := by
  by_cases c : S.2.1 25 p = v
  · rw [tlU, if_pos c]; exact Frm.rf S
  · by_cases c2 : nd = 40
    · rw [tlU, if_neg c, if_pos c2]
      have fd : Frm [] [34, 35, 36, 37] [] (si S 1657 (nI 0)) (drT (si S 1657 (nI 0)) 39) := ⟨fun k _ => congrFun (drT_1 _ 39) k, fun k hk => drT_2 _ (by simpa using hk) 39, fun k _ => congrFun (drT_3 _ 39) k⟩
      exact (((((((((Frm.rf S).si (by decide) _).tr (fd.wk (by decide) (by decide) (by decide))).si (by decide) _).sa (by decide) _).sa (by decide) _).sa (by decide) _).sa (by decide) _).si (by decide) _).sa (by decide) _
    · rw [tlU, if_neg c, if_neg c2]
      exact (((((((Frm.rf S).si (by decide) _).sa (by decide) _).sa (by decide) _).sa (by decide) _).sa (by decide) _).si (by decide) _).sa (by decide) _
theorem tlU_fr1 {S : k_S} {nd p : Nat} {v : Int32} : Frm [1656, 1657] [34, 35, 36, 37, 17] [] S (tlU S nd 17 1 p v) := by
  by_cases c : S.2.1 17 p = v
  · rw [tlU, if_pos c]; exact Frm.rf S
  · by_cases c2 : nd = 40
    · rw [tlU, if_neg c, if_pos c2]
      have fd : Frm [] [34, 35, 36, 37] [] (si S 1657 (nI 0)) (drT (si S 1657 (nI 0)) 39) := ⟨fun k _ => congrFun (drT_1 _ 39) k, fun k hk => drT_2 _ (by simpa using hk) 39, fun k _ => congrFun (drT_3 _ 39) k⟩
      exact (((((((((Frm.rf S).si (by decide) _).tr (fd.wk (by decide) (by decide) (by decide))).si (by decide) _).sa (by decide) _).sa (by decide) _).sa (by decide) _).sa (by decide) _).si (by decide) _).sa (by decide) _
    · rw [tlU, if_neg c, if_neg c2]
      exact (((((((Frm.rf S).si (by decide) _).sa (by decide) _).sa (by decide) _).sa (by decide) _).sa (by decide) _).si (by decide) _).sa (by decide) _
theorem tlU_fr2 {S : k_S} {nd p : Nat} {v : Int32} : Frm [1656, 1657] [34, 35, 36, 37, 18] [] S (tlU S nd 18 2 p v) := by
  by_cases c : S.2.1 18 p = v
  · rw [tlU, if_pos c]; exact Frm.rf S
  · by_cases c2 : nd = 40
    · rw [tlU, if_neg c, if_pos c2]
      have fd : Frm [] [34, 35, 36, 37] [] (si S 1657 (nI 0)) (drT (si S 1657 (nI 0)) 39) := ⟨fun k _ => congrFun (drT_1 _ 39) k, fun k hk => drT_2 _ (by simpa using hk) 39, fun k _ => congrFun (drT_3 _ 39) k⟩
      exact (((((((((Frm.rf S).si (by decide) _).tr (fd.wk (by decide) (by decide) (by decide))).si (by decide) _).sa (by decide) _).sa (by decide) _).sa (by decide) _).sa (by decide) _).si (by decide) _).sa (by decide) _
    · rw [tlU, if_neg c, if_neg c2]
      exact (((((((Frm.rf S).si (by decide) _).sa (by decide) _).sa (by decide) _).sa (by decide) _).sa (by decide) _).si (by decide) _).sa (by decide) _
theorem pW_e2 {wk : Nat} {v : Int32} (h6 : wk ≤ 6) (h : pW (nI wk) v) : ∃ j, j < wk ∧ v = nI j := by
  have h2 := Int32.lt_iff_toInt_lt.mp h.2
  have h1 := Int32.le_iff_toInt_le.mp h.1
  rw [nI_toInt (by omega)] at h2
  rw [nI_toInt (by omega)] at h1
  refine ⟨v.toInt.toNat, by omega, Int32.toInt_inj.mp ?_⟩
  rw [nI_toInt (by omega)]; omega
theorem bo_plan {S : k_S} (h : RRx S) (x v : Int32) : Both MX11_plan MX12_plan [.int x, .int v] S := by
  have h0 := h
  obtain ⟨wk, rn, dn, tp, T0, T1, T2, lo, tn, nd, nu, kn, ra, h⟩ := h
  have b := h.b1
  have n40 := h.b6.n40
  obtain ⟨r0, r1, r2, r3, r4, r5, r6, r7, r8⟩ := hV_a b.hV
  have qc := pX11_plan (S := S) h.b6.ndC (by omega) x v
  rw [b.wkC] at qc
  by_cases c : pD x ∧ pW (nI wk) v
  · obtain ⟨p, hp0, rfl⟩ := pD_ex c.1
    have hp1 : p < 120 := by omega
    obtain ⟨w, hw, rfl⟩ := pW_e2 b.wk6 c.2
    have w6 := b.wk6
    rw [sPln, b.wkC, if_pos c, ix_nI (by omega)] at qc
    have f1 := tlU_fr0 (S := S) (nd := nd) (p := p) (v := nI w)
    have qm := pX12_plan (S := tlU S nd 25 0 p (nI w)) ((f1.1 2600 (by decide)).trans b.wkM) b.wk6 ((f1.1 2626 (by decide)).trans h.b6.ndM) (by omega) (nI p) (nI w)
    rw [mPln, (f1.1 2600 (by decide)).trans b.wkM, if_pos c, ix_nI (by omega), f1.2.1 61 (by decide), ← r6] at qm
    obtain ⟨w0, hw0, ew0⟩ : ∃ w0, w0 < 6 ∧ S.2.1 25 p = nI w0 := ⟨ix (S.2.1 25 p), (b.pln p hp1).2, (b.pln p hp1).1⟩
    obtain ⟨nd2, nu2, f, ea, eb, h6'⟩ := tell0 h.b6 (p := p) (v := nI w) r6 (Or.inl ⟨rfl, rfl, hp1, w0, w, hw0, by omega, ew0, rfl⟩)
    refine both_t (dc := 4) (dm := 2) (by decide) (by decide) qc qm ?_
    obtain ⟨T, hT⟩ : ∃ T, mtlU (tlU S nd 25 0 p (nI w)) nd 61 p p (nI w) = T := ⟨_, rfl⟩
    rw [hT] at f ea eb h6' ⊢
    have hb1 : B1 T wk rn dn := by
      refine b.pl f (by decide) (by decide) ea (by rw [eb, ← r6]) ?_
      intro d hd
      by_cases e : d = p
      · subst e; rw [va_a1]; exact ⟨w, by omega, rfl⟩
      · rw [va_ne _ _ e]; exact ⟨_, (b.pln d hd).2, (b.pln d hd).1⟩
    exact ⟨wk, rn, dn, tp, T0, T1, T2, lo, tn, nd2, nu2, kn, ra, ⟨hb1, h.b2.fr f (by decide) (by decide), h.b3.fr f (by decide) (by decide), h.b4.fr f (by decide), h.b5.fr f (by decide) (by decide), h6', h.b7.fr f (by decide) (by decide), h.b8.fr f (by decide) (by decide)⟩⟩
  · rw [sPln, b.wkC, if_neg c] at qc
    have qm := pX12_plan (S := S) b.wkM b.wk6 h.b6.ndM (by omega) x v
    rw [mPln, b.wkM, if_neg c, ← r6] at qm
    exact both_0 (dc := 4) (dm := 2) h0 (by decide) (by decide) qc qm
theorem bo_mend {S : k_S} (h : RRx S) (x y v : Int32) : Both MX11_mend MX12_mend [.int x, .int y, .int v] S := by
  have h0 := h
  obtain ⟨wk, rn, dn, tp, T0, T1, T2, lo, tn, nd, nu, kn, ra, h⟩ := h
  have b := h.b1
  have n40 := h.b6.n40
  have w6 := b.wk6
  obtain ⟨r0, r1, r2, r3, r4, r5, r6, r7, r8⟩ := hV_a b.hV
  have qc := pX11_mend (S := S) b.wkC b.wk1 b.wk6 h.b6.ndC (by omega) x y v
  rw [b.wkC] at qc
  by_cases c : pMnd (nI wk) x y v
  · obtain ⟨p, hp0, rfl⟩ := pW_e2 b.wk6 c.2.1
    have hp1 : 1 ≤ p := Nat.pos_of_ne_zero (fun e => c.1 (by rw [e]; rfl))
    obtain ⟨u, hu, rfl⟩ := k_rngle (Int32.le_trans (by decide) c.2.2.2.1) c.2.2.2.2 (by decide)
    obtain ⟨x0, y0, hx0, hy0, ex0, ey0⟩ := b.val.1 p (by omega)
    change S.2.1 17 p = nI x0 at ex0
    change S.2.1 18 p = nI y0 at ey0
    by_cases c2 : y = 0
    · rw [sMnd, b.wkC, if_pos c, if_pos c2, ix_nI (by omega)] at qc
      have f1 := tlU_fr1 (S := S) (nd := nd) (p := p) (v := nI u)
      have qm := pX12_mend (S := tlU S nd 17 1 p (nI u)) ((f1.1 2600 (by decide)).trans b.wkM) b.wk6 ((f1.1 2626 (by decide)).trans h.b6.ndM) (by omega) (nI p) y (nI u)
      rw [mMnd, (f1.1 2600 (by decide)).trans b.wkM, if_pos c, if_pos c2, ix_nI (by omega), f1.2.1 53 (by decide), f1.2.1 54 (by decide), ← r0, ← r1] at qm
      obtain ⟨nd2, nu2, f, ea, eb, h6'⟩ := tell1 h.b6 (p := p) (v := nI u) r0 (Or.inr (Or.inl ⟨rfl, rfl, hp1, by omega, x0, u, hx0, hu, ex0, rfl⟩))
      refine both_t (dc := 3) (dm := 2) (by decide) (by decide) qc qm ?_
      obtain ⟨T, hT⟩ : ∃ T, mtlU (tlU S nd 17 1 p (nI u)) nd 53 p (120 + p) (nI u) = T := ⟨_, rfl⟩
      rw [hT] at f ea eb h6' ⊢
      have hb1 : B1 T wk rn dn := by
        have k17 : T.2.1 18 = S.2.1 18 := f.2.1 _ (by decide)
        have k53 : T.2.1 54 = S.2.1 54 := f.2.1 _ (by decide)
        refine b.ws f (by decide) (by decide) (by rw [ea, eb, r0]) (by rw [k17, k53, r1]) (by rw [f.2.1 19 (by decide), f.2.1 55 (by decide), r2]) ((f.1 803 (by decide)).trans b.wkC) ((f.1 2600 (by decide)).trans b.wkM) b.wk1 b.wk6 ?_ ?_
        · rw [ea, k17, va_ne _ _ (show (0 : Nat) ≠ p by omega)]; exact b.rst
        · intro w hw
          rw [ea, k17]
          by_cases e : w = p
          · subst e; rw [va_a1]; exact ⟨u, y0, hu, hy0, rfl, ey0⟩
          · rw [va_ne _ _ e]; exact b.val.1 w hw
      exact ⟨wk, rn, dn, tp, T0, T1, T2, lo, tn, nd2, nu2, kn, ra, ⟨hb1, h.b2.fr f (by decide) (by decide), h.b3.fr f (by decide) (by decide), h.b4.fr f (by decide), h.b5.fr f (by decide) (by decide), h6', h.b7.fr f (by decide) (by decide), h.b8.fr f (by decide) (by decide)⟩⟩
    · rw [sMnd, b.wkC, if_pos c, if_neg c2, ix_nI (by omega)] at qc
      have f1 := tlU_fr2 (S := S) (nd := nd) (p := p) (v := nI u)
      have qm := pX12_mend (S := tlU S nd 18 2 p (nI u)) ((f1.1 2600 (by decide)).trans b.wkM) b.wk6 ((f1.1 2626 (by decide)).trans h.b6.ndM) (by omega) (nI p) y (nI u)
      rw [mMnd, (f1.1 2600 (by decide)).trans b.wkM, if_pos c, if_neg c2, ix_nI (by omega), f1.2.1 53 (by decide), f1.2.1 54 (by decide), ← r0, ← r1] at qm
      obtain ⟨nd2, nu2, f, ea, eb, h6'⟩ := tell2 h.b6 (p := p) (v := nI u) r1 (Or.inr (Or.inr ⟨rfl, rfl, hp1, by omega, y0, u, hy0, hu, ey0, rfl⟩))
      refine both_t (dc := 3) (dm := 2) (by decide) (by decide) qc qm ?_
      obtain ⟨T, hT⟩ : ∃ T, mtlU (tlU S nd 18 2 p (nI u)) nd 54 p (130 + p) (nI u) = T := ⟨_, rfl⟩
      rw [hT] at f ea eb h6' ⊢
      have hb1 : B1 T wk rn dn := by
        have k17 : T.2.1 17 = S.2.1 17 := f.2.1 _ (by decide)
        have k53 : T.2.1 53 = S.2.1 53 := f.2.1 _ (by decide)
        refine b.ws f (by decide) (by decide) (by rw [k17, k53, r0]) (by rw [ea, eb, r1]) (by rw [f.2.1 19 (by decide), f.2.1 55 (by decide), r2]) ((f.1 803 (by decide)).trans b.wkC) ((f.1 2600 (by decide)).trans b.wkM) b.wk1 b.wk6 ?_ ?_
        · rw [ea, k17, va_ne _ _ (show (0 : Nat) ≠ p by omega)]; exact b.rst
        · intro w hw
          rw [ea, k17]
          by_cases e : w = p
          · subst e; rw [va_a1]; exact ⟨x0, u, hx0, hu, ex0, rfl⟩
          · rw [va_ne _ _ e]; exact b.val.1 w hw
      exact ⟨wk, rn, dn, tp, T0, T1, T2, lo, tn, nd2, nu2, kn, ra, ⟨hb1, h.b2.fr f (by decide) (by decide), h.b3.fr f (by decide) (by decide), h.b4.fr f (by decide), h.b5.fr f (by decide) (by decide), h6', h.b7.fr f (by decide) (by decide), h.b8.fr f (by decide) (by decide)⟩⟩
  · rw [sMnd, b.wkC, if_neg c] at qc
    have qm := pX12_mend (S := S) b.wkM b.wk6 h.b6.ndM (by omega) x y v
    rw [mMnd, b.wkM, if_neg c, ← r0, ← r1] at qm
    exact both_0 (dc := 3) (dm := 2) h0 (by decide) (by decide) qc qm
theorem bo_undo {S : k_S} (h : RRx S) : Both MX11_undo MX12_undo [] S := by
  have h0 := h
  obtain ⟨wk, rn, dn, tp, T0, T1, T2, lo, tn, nd, nu, kn, ra, h⟩ := h
  have b := h.b1
  have n40 := h.b6.n40
  obtain ⟨r0, r1, r2, r3, r4, r5, r6, r7, r8⟩ := hV_a b.hV
  by_cases c : nd = 0
  · subst c
    exact both_0 (dc := 1) (dm := 0) h0 (by decide) (by decide) (pX11_undoN h.b6.ndC) (pX12_undoN h.b6.ndM)
  · obtain ⟨m, rfl⟩ : ∃ m, nd = m + 1 := ⟨nd - 1, by omega⟩
    have hk := h.b6.chs m (by omega)
    rcases hk with ⟨p, x, y, hp1, hx, hy, e34, e35, e69, ex, ey⟩ | ⟨p, x, y, hp0, hp1, hx, hy, e34, e35, e69, ex, ey⟩ | ⟨p, x, y, hp0, hp1, hx, hy, e34, e35, e69, ex, ey⟩
    · have qc := pX11_undo0 (S := S) (n := m) (p := p) (u := nu) h.b6.ndC (by omega) h.b6.nuC (by omega) e34 e35 (by omega)
      obtain ⟨S1, hS1⟩ : ∃ S1, sa (si (si S 1656 (nI m)) 1657 (nI (nu + 1))) 25 (va_up (S.2.1 25) p (S.2.1 36 m)) = S1 := ⟨_, rfl⟩
      have f1 : Frm [1656, 1657] [25] [] S S1 := by rw [← hS1]; exact ((((Frm.rf S).si (by decide) _).si (by decide) _).sa (by decide) _)
      have a1 : S1.2.1 25 = va_up (S.2.1 25) p (S.2.1 36 m) := by rw [← hS1]; rfl
      have i1 : S1.1 1656 = nI (m) := by rw [← hS1]; rfl
      have i2 : S1.1 1657 = nI (nu + 1) := by rw [← hS1]; rfl
      rw [hS1] at qc
      have qm := pX12_undo0 (S := S1) (n := m) (p := p) ((f1.1 2626 (by decide)).trans h.b6.ndM) (by omega) ((congrFun (f1.2.1 69 (by decide)) m).trans e69) (by omega)
      skip
      refine both_t (dc := 4) (dm := 1) (by decide) (by decide) qc qm ?_
      obtain ⟨T, hT⟩ : ∃ T, sa (si S1 2626 (nI m)) 61 (va_up (S1.2.1 61) p (S1.2.1 70 m)) = T := ⟨_, rfl⟩
      have f2 : Frm [2626] [61] [] S1 T := by rw [← hT]; exact (((Frm.rf S1).si (by decide) _).sa (by decide) _)
      have f : Frm [1656, 1657, 2626] [25, 61] [] S T := (f1.wk (by decide) (by decide) (by decide)).tr (f2.wk (by decide) (by decide) (by decide))
      have ea : T.2.1 25 = va_up (S.2.1 25) p (nI x) := by rw [f2.2.1 25 (by decide), a1, ex]
      have eb : T.2.1 61 = va_up (S.2.1 61) p (nI x) := by
        rw [← ex, h.b6.was, ← f1.2.1 70 (by decide), ← f1.2.1 61 (by decide), ← hT]; rfl
      have g1 : T.1 2626 = nI (m) := by rw [← hT]; rfl
      rw [hT]
      have h6' : B6 T (m) (nu + 1) := by
        refine ⟨(f2.1 1656 (by decide)).trans i1, (f2.1 1657 (by decide)).trans i2, g1, ?_, by omega, by rw [f.2.1 36 (by decide), f.2.1 70 (by decide)]; exact h.b6.was, by rw [f.2.1 37 (by decide), f.2.1 71 (by decide)]; exact h.b6.now, fun k hk => ?_⟩
        · rw [f.1 2625 (by decide), h.b6.chM]; congr 1; omega
        · unfold chOk
          rw [f.2.1 34 (by decide), f.2.1 35 (by decide), f.2.1 69 (by decide), f.2.1 36 (by decide), f.2.1 37 (by decide)]
          exact h.b6.chs k (by omega)
      have hb1 : B1 T wk rn dn := by
        refine b.pl f (by decide) (by decide) ea (by rw [eb, ← r6]) ?_
        intro d hd
        by_cases e : d = p
        · subst e; rw [va_a1]; exact ⟨x, hx, rfl⟩
        · rw [va_ne _ _ e]; exact ⟨_, (b.pln d hd).2, (b.pln d hd).1⟩
      exact ⟨wk, rn, dn, tp, T0, T1, T2, lo, tn, m, nu + 1, kn, ra, ⟨hb1, h.b2.fr f (by decide) (by decide), h.b3.fr f (by decide) (by decide), h.b4.fr f (by decide), h.b5.fr f (by decide) (by decide), h6', h.b7.fr f (by decide) (by decide), h.b8.fr f (by decide) (by decide)⟩⟩
    · have qc := pX11_undo1 (S := S) (n := m) (p := p) (u := nu) h.b6.ndC (by omega) h.b6.nuC (by omega) e34 e35 (by omega)
      obtain ⟨S1, hS1⟩ : ∃ S1, sa (si (si S 1656 (nI m)) 1657 (nI (nu + 1))) 17 (va_up (S.2.1 17) p (S.2.1 36 m)) = S1 := ⟨_, rfl⟩
      have f1 : Frm [1656, 1657] [17] [] S S1 := by rw [← hS1]; exact ((((Frm.rf S).si (by decide) _).si (by decide) _).sa (by decide) _)
      have a1 : S1.2.1 17 = va_up (S.2.1 17) p (S.2.1 36 m) := by rw [← hS1]; rfl
      have i1 : S1.1 1656 = nI (m) := by rw [← hS1]; rfl
      have i2 : S1.1 1657 = nI (nu + 1) := by rw [← hS1]; rfl
      rw [hS1] at qc
      have qm := pX12_undo1 (S := S1) (n := m) (p := p) ((f1.1 2626 (by decide)).trans h.b6.ndM) (by omega) ((congrFun (f1.2.1 69 (by decide)) m).trans e69) (by omega)
      skip
      refine both_t (dc := 3) (dm := 1) (by decide) (by decide) qc qm ?_
      obtain ⟨T, hT⟩ : ∃ T, sa (si S1 2626 (nI m)) 53 (va_up (S1.2.1 53) p (S1.2.1 70 m)) = T := ⟨_, rfl⟩
      have f2 : Frm [2626] [53] [] S1 T := by rw [← hT]; exact (((Frm.rf S1).si (by decide) _).sa (by decide) _)
      have f : Frm [1656, 1657, 2626] [17, 53] [] S T := (f1.wk (by decide) (by decide) (by decide)).tr (f2.wk (by decide) (by decide) (by decide))
      have ea : T.2.1 17 = va_up (S.2.1 17) p (nI x) := by rw [f2.2.1 17 (by decide), a1, ex]
      have eb : T.2.1 53 = va_up (S.2.1 53) p (nI x) := by
        rw [← ex, h.b6.was, ← f1.2.1 70 (by decide), ← f1.2.1 53 (by decide), ← hT]; rfl
      have g1 : T.1 2626 = nI (m) := by rw [← hT]; rfl
      rw [hT]
      have h6' : B6 T (m) (nu + 1) := by
        refine ⟨(f2.1 1656 (by decide)).trans i1, (f2.1 1657 (by decide)).trans i2, g1, ?_, by omega, by rw [f.2.1 36 (by decide), f.2.1 70 (by decide)]; exact h.b6.was, by rw [f.2.1 37 (by decide), f.2.1 71 (by decide)]; exact h.b6.now, fun k hk => ?_⟩
        · rw [f.1 2625 (by decide), h.b6.chM]; congr 1; omega
        · unfold chOk
          rw [f.2.1 34 (by decide), f.2.1 35 (by decide), f.2.1 69 (by decide), f.2.1 36 (by decide), f.2.1 37 (by decide)]
          exact h.b6.chs k (by omega)
      have hb1 : B1 T wk rn dn := by
        have k17 : T.2.1 18 = S.2.1 18 := f.2.1 _ (by decide)
        have k53 : T.2.1 54 = S.2.1 54 := f.2.1 _ (by decide)
        refine b.ws f (by decide) (by decide) (by rw [ea, eb, r0]) (by rw [k17, k53, r1]) (by rw [f.2.1 19 (by decide), f.2.1 55 (by decide), r2]) ((f.1 803 (by decide)).trans b.wkC) ((f.1 2600 (by decide)).trans b.wkM) b.wk1 b.wk6 ?_ ?_
        · rw [ea, k17, va_ne _ _ (show (0 : Nat) ≠ p by omega)]; exact b.rst
        · intro w hw
          rw [ea, k17]
          obtain ⟨x0, y0, hx0, hy0, ex0, ey0⟩ := b.val.1 w hw
          change S.2.1 17 w = nI x0 at ex0
          change S.2.1 18 w = nI y0 at ey0
          by_cases e : w = p
          · subst e; rw [va_a1]; exact ⟨x, y0, hx, hy0, rfl, ey0⟩
          · rw [va_ne _ _ e]; exact b.val.1 w hw
      exact ⟨wk, rn, dn, tp, T0, T1, T2, lo, tn, m, nu + 1, kn, ra, ⟨hb1, h.b2.fr f (by decide) (by decide), h.b3.fr f (by decide) (by decide), h.b4.fr f (by decide), h.b5.fr f (by decide) (by decide), h6', h.b7.fr f (by decide) (by decide), h.b8.fr f (by decide) (by decide)⟩⟩
    · have qc := pX11_undo2 (S := S) (n := m) (p := p) (u := nu) h.b6.ndC (by omega) h.b6.nuC (by omega) e34 e35 (by omega)
      obtain ⟨S1, hS1⟩ : ∃ S1, sa (si (si S 1656 (nI m)) 1657 (nI (nu + 1))) 18 (va_up (S.2.1 18) p (S.2.1 36 m)) = S1 := ⟨_, rfl⟩
      have f1 : Frm [1656, 1657] [18] [] S S1 := by rw [← hS1]; exact ((((Frm.rf S).si (by decide) _).si (by decide) _).sa (by decide) _)
      have a1 : S1.2.1 18 = va_up (S.2.1 18) p (S.2.1 36 m) := by rw [← hS1]; rfl
      have i1 : S1.1 1656 = nI (m) := by rw [← hS1]; rfl
      have i2 : S1.1 1657 = nI (nu + 1) := by rw [← hS1]; rfl
      rw [hS1] at qc
      have qm := pX12_undo2 (S := S1) (n := m) (p := p) ((f1.1 2626 (by decide)).trans h.b6.ndM) (by omega) ((congrFun (f1.2.1 69 (by decide)) m).trans e69) (by omega)
      skip
      refine both_t (dc := 3) (dm := 1) (by decide) (by decide) qc qm ?_
      obtain ⟨T, hT⟩ : ∃ T, sa (si S1 2626 (nI m)) 54 (va_up (S1.2.1 54) p (S1.2.1 70 m)) = T := ⟨_, rfl⟩
      have f2 : Frm [2626] [54] [] S1 T := by rw [← hT]; exact (((Frm.rf S1).si (by decide) _).sa (by decide) _)
      have f : Frm [1656, 1657, 2626] [18, 54] [] S T := (f1.wk (by decide) (by decide) (by decide)).tr (f2.wk (by decide) (by decide) (by decide))
      have ea : T.2.1 18 = va_up (S.2.1 18) p (nI x) := by rw [f2.2.1 18 (by decide), a1, ex]
      have eb : T.2.1 54 = va_up (S.2.1 54) p (nI x) := by
        rw [← ex, h.b6.was, ← f1.2.1 70 (by decide), ← f1.2.1 54 (by decide), ← hT]; rfl
      have g1 : T.1 2626 = nI (m) := by rw [← hT]; rfl
      rw [hT]
      have h6' : B6 T (m) (nu + 1) := by
        refine ⟨(f2.1 1656 (by decide)).trans i1, (f2.1 1657 (by decide)).trans i2, g1, ?_, by omega, by rw [f.2.1 36 (by decide), f.2.1 70 (by decide)]; exact h.b6.was, by rw [f.2.1 37 (by decide), f.2.1 71 (by decide)]; exact h.b6.now, fun k hk => ?_⟩
        · rw [f.1 2625 (by decide), h.b6.chM]; congr 1; omega
        · unfold chOk
          rw [f.2.1 34 (by decide), f.2.1 35 (by decide), f.2.1 69 (by decide), f.2.1 36 (by decide), f.2.1 37 (by decide)]
          exact h.b6.chs k (by omega)
      have hb1 : B1 T wk rn dn := by
        have k17 : T.2.1 17 = S.2.1 17 := f.2.1 _ (by decide)
        have k53 : T.2.1 53 = S.2.1 53 := f.2.1 _ (by decide)
        refine b.ws f (by decide) (by decide) (by rw [k17, k53, r0]) (by rw [ea, eb, r1]) (by rw [f.2.1 19 (by decide), f.2.1 55 (by decide), r2]) ((f.1 803 (by decide)).trans b.wkC) ((f.1 2600 (by decide)).trans b.wkM) b.wk1 b.wk6 ?_ ?_
        · rw [ea, k17, va_ne _ _ (show (0 : Nat) ≠ p by omega)]; exact b.rst
        · intro w hw
          rw [ea, k17]
          obtain ⟨x0, y0, hx0, hy0, ex0, ey0⟩ := b.val.1 w hw
          change S.2.1 17 w = nI x0 at ex0
          change S.2.1 18 w = nI y0 at ey0
          by_cases e : w = p
          · subst e; rw [va_a1]; exact ⟨x0, x, hx0, hx, ex0, rfl⟩
          · rw [va_ne _ _ e]; exact b.val.1 w hw
      exact ⟨wk, rn, dn, tp, T0, T1, T2, lo, tn, m, nu + 1, kn, ra, ⟨hb1, h.b2.fr f (by decide) (by decide), h.b3.fr f (by decide) (by decide), h.b4.fr f (by decide), h.b5.fr f (by decide) (by decide), h6', h.b7.fr f (by decide) (by decide), h.b8.fr f (by decide) (by decide)⟩⟩
theorem bo_redo {S : k_S} (h : RRx S) : Both MX11_redo MX12_redo [] S := by
  have h0 := h
  obtain ⟨wk, rn, dn, tp, T0, T1, T2, lo, tn, nd, nu, kn, ra, h⟩ := h
  have b := h.b1
  have n40 := h.b6.n40
  obtain ⟨r0, r1, r2, r3, r4, r5, r6, r7, r8⟩ := hV_a b.hV
  by_cases c : nu = 0
  · subst c
    exact both_0 (dc := 1) (dm := 0) h0 (by decide) (by decide) (pX11_redoN h.b6.nuC) (pX12_redoN h.b6.ndM (by omega) h.b6.chM)
  · obtain ⟨u, rfl⟩ : ∃ u, nu = u + 1 := ⟨nu - 1, by omega⟩
    obtain ⟨m, hm⟩ : ∃ m, m = nd := ⟨nd, rfl⟩
    subst hm
    have hk := h.b6.chs m (by omega)
    rcases hk with ⟨p, x, y, hp1, hx, hy, e34, e35, e69, ex, ey⟩ | ⟨p, x, y, hp0, hp1, hx, hy, e34, e35, e69, ex, ey⟩ | ⟨p, x, y, hp0, hp1, hx, hy, e34, e35, e69, ex, ey⟩
    · have qc := pX11_redo0 (S := S) (n := m) (p := p) (u := u) h.b6.ndC (by omega) h.b6.nuC (by omega) e34 e35 (by omega)
      obtain ⟨S1, hS1⟩ : ∃ S1, si (si (sa S 25 (va_up (S.2.1 25) p (S.2.1 37 m))) 1656 (nI (m + 1))) 1657 (nI u) = S1 := ⟨_, rfl⟩
      have f1 : Frm [1656, 1657] [25] [] S S1 := by rw [← hS1]; exact ((((Frm.rf S).sa (by decide) _).si (by decide) _).si (by decide) _)
      have a1 : S1.2.1 25 = va_up (S.2.1 25) p (S.2.1 37 m) := by rw [← hS1]; rfl
      have i1 : S1.1 1656 = nI (m + 1) := by rw [← hS1]; rfl
      have i2 : S1.1 1657 = nI (u) := by rw [← hS1]; rfl
      rw [hS1] at qc
      have qm := pX12_redo0 (S := S1) (n := m) (p := p) (c := m + (u + 1)) ((f1.1 2626 (by decide)).trans h.b6.ndM) (by omega) ((f1.1 2625 (by decide)).trans h.b6.chM) (by omega) ((congrFun (f1.2.1 69 (by decide)) m).trans e69) (by omega)
      rw [show m + (u + 1) - (m + 1) = u from by omega] at qm
      refine both_t (dc := 4) (dm := 1) (by decide) (by decide) qc qm ?_
      obtain ⟨T, hT⟩ : ∃ T, si (sa S1 61 (va_up (S1.2.1 61) p (S1.2.1 71 m))) 2626 (nI (m + 1)) = T := ⟨_, rfl⟩
      have f2 : Frm [2626] [61] [] S1 T := by rw [← hT]; exact (((Frm.rf S1).sa (by decide) _).si (by decide) _)
      have f : Frm [1656, 1657, 2626] [25, 61] [] S T := (f1.wk (by decide) (by decide) (by decide)).tr (f2.wk (by decide) (by decide) (by decide))
      have ea : T.2.1 25 = va_up (S.2.1 25) p (nI y) := by rw [f2.2.1 25 (by decide), a1, ey]
      have eb : T.2.1 61 = va_up (S.2.1 61) p (nI y) := by
        rw [← ey, h.b6.now, ← f1.2.1 71 (by decide), ← f1.2.1 61 (by decide), ← hT]; rfl
      have g1 : T.1 2626 = nI (m + 1) := by rw [← hT]; rfl
      rw [hT]
      have h6' : B6 T (m + 1) (u) := by
        refine ⟨(f2.1 1656 (by decide)).trans i1, (f2.1 1657 (by decide)).trans i2, g1, ?_, by omega, by rw [f.2.1 36 (by decide), f.2.1 70 (by decide)]; exact h.b6.was, by rw [f.2.1 37 (by decide), f.2.1 71 (by decide)]; exact h.b6.now, fun k hk => ?_⟩
        · rw [f.1 2625 (by decide), h.b6.chM]; congr 1; omega
        · unfold chOk
          rw [f.2.1 34 (by decide), f.2.1 35 (by decide), f.2.1 69 (by decide), f.2.1 36 (by decide), f.2.1 37 (by decide)]
          exact h.b6.chs k (by omega)
      have hb1 : B1 T wk rn dn := by
        refine b.pl f (by decide) (by decide) ea (by rw [eb, ← r6]) ?_
        intro d hd
        by_cases e : d = p
        · subst e; rw [va_a1]; exact ⟨y, hy, rfl⟩
        · rw [va_ne _ _ e]; exact ⟨_, (b.pln d hd).2, (b.pln d hd).1⟩
      exact ⟨wk, rn, dn, tp, T0, T1, T2, lo, tn, m + 1, u, kn, ra, ⟨hb1, h.b2.fr f (by decide) (by decide), h.b3.fr f (by decide) (by decide), h.b4.fr f (by decide), h.b5.fr f (by decide) (by decide), h6', h.b7.fr f (by decide) (by decide), h.b8.fr f (by decide) (by decide)⟩⟩
    · have qc := pX11_redo1 (S := S) (n := m) (p := p) (u := u) h.b6.ndC (by omega) h.b6.nuC (by omega) e34 e35 (by omega)
      obtain ⟨S1, hS1⟩ : ∃ S1, si (si (sa S 17 (va_up (S.2.1 17) p (S.2.1 37 m))) 1656 (nI (m + 1))) 1657 (nI u) = S1 := ⟨_, rfl⟩
      have f1 : Frm [1656, 1657] [17] [] S S1 := by rw [← hS1]; exact ((((Frm.rf S).sa (by decide) _).si (by decide) _).si (by decide) _)
      have a1 : S1.2.1 17 = va_up (S.2.1 17) p (S.2.1 37 m) := by rw [← hS1]; rfl
      have i1 : S1.1 1656 = nI (m + 1) := by rw [← hS1]; rfl
      have i2 : S1.1 1657 = nI (u) := by rw [← hS1]; rfl
      rw [hS1] at qc
      have qm := pX12_redo1 (S := S1) (n := m) (p := p) (c := m + (u + 1)) ((f1.1 2626 (by decide)).trans h.b6.ndM) (by omega) ((f1.1 2625 (by decide)).trans h.b6.chM) (by omega) ((congrFun (f1.2.1 69 (by decide)) m).trans e69) (by omega)
      rw [show m + (u + 1) - (m + 1) = u from by omega] at qm
      refine both_t (dc := 3) (dm := 1) (by decide) (by decide) qc qm ?_
      obtain ⟨T, hT⟩ : ∃ T, si (sa S1 53 (va_up (S1.2.1 53) p (S1.2.1 71 m))) 2626 (nI (m + 1)) = T := ⟨_, rfl⟩
      have f2 : Frm [2626] [53] [] S1 T := by rw [← hT]; exact (((Frm.rf S1).sa (by decide) _).si (by decide) _)
      have f : Frm [1656, 1657, 2626] [17, 53] [] S T := (f1.wk (by decide) (by decide) (by decide)).tr (f2.wk (by decide) (by decide) (by decide))
      have ea : T.2.1 17 = va_up (S.2.1 17) p (nI y) := by rw [f2.2.1 17 (by decide), a1, ey]
      have eb : T.2.1 53 = va_up (S.2.1 53) p (nI y) := by
        rw [← ey, h.b6.now, ← f1.2.1 71 (by decide), ← f1.2.1 53 (by decide), ← hT]; rfl
      have g1 : T.1 2626 = nI (m + 1) := by rw [← hT]; rfl
      rw [hT]
      have h6' : B6 T (m + 1) (u) := by
        refine ⟨(f2.1 1656 (by decide)).trans i1, (f2.1 1657 (by decide)).trans i2, g1, ?_, by omega, by rw [f.2.1 36 (by decide), f.2.1 70 (by decide)]; exact h.b6.was, by rw [f.2.1 37 (by decide), f.2.1 71 (by decide)]; exact h.b6.now, fun k hk => ?_⟩
        · rw [f.1 2625 (by decide), h.b6.chM]; congr 1; omega
        · unfold chOk
          rw [f.2.1 34 (by decide), f.2.1 35 (by decide), f.2.1 69 (by decide), f.2.1 36 (by decide), f.2.1 37 (by decide)]
          exact h.b6.chs k (by omega)
      have hb1 : B1 T wk rn dn := by
        have k17 : T.2.1 18 = S.2.1 18 := f.2.1 _ (by decide)
        have k53 : T.2.1 54 = S.2.1 54 := f.2.1 _ (by decide)
        refine b.ws f (by decide) (by decide) (by rw [ea, eb, r0]) (by rw [k17, k53, r1]) (by rw [f.2.1 19 (by decide), f.2.1 55 (by decide), r2]) ((f.1 803 (by decide)).trans b.wkC) ((f.1 2600 (by decide)).trans b.wkM) b.wk1 b.wk6 ?_ ?_
        · rw [ea, k17, va_ne _ _ (show (0 : Nat) ≠ p by omega)]; exact b.rst
        · intro w hw
          rw [ea, k17]
          obtain ⟨x0, y0, hx0, hy0, ex0, ey0⟩ := b.val.1 w hw
          change S.2.1 17 w = nI x0 at ex0
          change S.2.1 18 w = nI y0 at ey0
          by_cases e : w = p
          · subst e; rw [va_a1]; exact ⟨y, y0, hy, hy0, rfl, ey0⟩
          · rw [va_ne _ _ e]; exact b.val.1 w hw
      exact ⟨wk, rn, dn, tp, T0, T1, T2, lo, tn, m + 1, u, kn, ra, ⟨hb1, h.b2.fr f (by decide) (by decide), h.b3.fr f (by decide) (by decide), h.b4.fr f (by decide), h.b5.fr f (by decide) (by decide), h6', h.b7.fr f (by decide) (by decide), h.b8.fr f (by decide) (by decide)⟩⟩
    · have qc := pX11_redo2 (S := S) (n := m) (p := p) (u := u) h.b6.ndC (by omega) h.b6.nuC (by omega) e34 e35 (by omega)
      obtain ⟨S1, hS1⟩ : ∃ S1, si (si (sa S 18 (va_up (S.2.1 18) p (S.2.1 37 m))) 1656 (nI (m + 1))) 1657 (nI u) = S1 := ⟨_, rfl⟩
      have f1 : Frm [1656, 1657] [18] [] S S1 := by rw [← hS1]; exact ((((Frm.rf S).sa (by decide) _).si (by decide) _).si (by decide) _)
      have a1 : S1.2.1 18 = va_up (S.2.1 18) p (S.2.1 37 m) := by rw [← hS1]; rfl
      have i1 : S1.1 1656 = nI (m + 1) := by rw [← hS1]; rfl
      have i2 : S1.1 1657 = nI (u) := by rw [← hS1]; rfl
      rw [hS1] at qc
      have qm := pX12_redo2 (S := S1) (n := m) (p := p) (c := m + (u + 1)) ((f1.1 2626 (by decide)).trans h.b6.ndM) (by omega) ((f1.1 2625 (by decide)).trans h.b6.chM) (by omega) ((congrFun (f1.2.1 69 (by decide)) m).trans e69) (by omega)
      rw [show m + (u + 1) - (m + 1) = u from by omega] at qm
      refine both_t (dc := 3) (dm := 1) (by decide) (by decide) qc qm ?_
      obtain ⟨T, hT⟩ : ∃ T, si (sa S1 54 (va_up (S1.2.1 54) p (S1.2.1 71 m))) 2626 (nI (m + 1)) = T := ⟨_, rfl⟩
      have f2 : Frm [2626] [54] [] S1 T := by rw [← hT]; exact (((Frm.rf S1).sa (by decide) _).si (by decide) _)
      have f : Frm [1656, 1657, 2626] [18, 54] [] S T := (f1.wk (by decide) (by decide) (by decide)).tr (f2.wk (by decide) (by decide) (by decide))
      have ea : T.2.1 18 = va_up (S.2.1 18) p (nI y) := by rw [f2.2.1 18 (by decide), a1, ey]
      have eb : T.2.1 54 = va_up (S.2.1 54) p (nI y) := by
        rw [← ey, h.b6.now, ← f1.2.1 71 (by decide), ← f1.2.1 54 (by decide), ← hT]; rfl
      have g1 : T.1 2626 = nI (m + 1) := by rw [← hT]; rfl
      rw [hT]
      have h6' : B6 T (m + 1) (u) := by
        refine ⟨(f2.1 1656 (by decide)).trans i1, (f2.1 1657 (by decide)).trans i2, g1, ?_, by omega, by rw [f.2.1 36 (by decide), f.2.1 70 (by decide)]; exact h.b6.was, by rw [f.2.1 37 (by decide), f.2.1 71 (by decide)]; exact h.b6.now, fun k hk => ?_⟩
        · rw [f.1 2625 (by decide), h.b6.chM]; congr 1; omega
        · unfold chOk
          rw [f.2.1 34 (by decide), f.2.1 35 (by decide), f.2.1 69 (by decide), f.2.1 36 (by decide), f.2.1 37 (by decide)]
          exact h.b6.chs k (by omega)
      have hb1 : B1 T wk rn dn := by
        have k17 : T.2.1 17 = S.2.1 17 := f.2.1 _ (by decide)
        have k53 : T.2.1 53 = S.2.1 53 := f.2.1 _ (by decide)
        refine b.ws f (by decide) (by decide) (by rw [k17, k53, r0]) (by rw [ea, eb, r1]) (by rw [f.2.1 19 (by decide), f.2.1 55 (by decide), r2]) ((f.1 803 (by decide)).trans b.wkC) ((f.1 2600 (by decide)).trans b.wkM) b.wk1 b.wk6 ?_ ?_
        · rw [ea, k17, va_ne _ _ (show (0 : Nat) ≠ p by omega)]; exact b.rst
        · intro w hw
          rw [ea, k17]
          obtain ⟨x0, y0, hx0, hy0, ex0, ey0⟩ := b.val.1 w hw
          change S.2.1 17 w = nI x0 at ex0
          change S.2.1 18 w = nI y0 at ey0
          by_cases e : w = p
          · subst e; rw [va_a1]; exact ⟨x0, y, hx0, hy, ex0, rfl⟩
          · rw [va_ne _ _ e]; exact b.val.1 w hw
      exact ⟨wk, rn, dn, tp, T0, T1, T2, lo, tn, m + 1, u, kn, ra, ⟨hb1, h.b2.fr f (by decide) (by decide), h.b3.fr f (by decide) (by decide), h.b4.fr f (by decide), h.b5.fr f (by decide) (by decide), h6', h.b7.fr f (by decide) (by decide), h.b8.fr f (by decide) (by decide)⟩⟩
