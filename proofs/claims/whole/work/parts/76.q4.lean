/-- the plan has changed, alike in both -/
theorem B1.pl {I A J : List Nat} {S T : k_S} {wk rn dn : Nat} {P : Nat → Int32} (b : B1 S wk rn dn) (f : Frm I A J S T) (hI : ∀ k ∈ [803, 2600, 1003, 2604, 1302, 2611], k ∉ I) (hA : ∀ a ∈ [17, 18, 19, 21, 22, 23, 27, 28, 53, 54, 55, 58, 59, 60, 62, 63], a ∉ A) (e25 : T.2.1 25 = P) (e61 : T.2.1 61 = P) (hP : ∀ d, d < 120 → ∃ w, w < 6 ∧ P d = nI w) : B1 T wk rn dn := by
  obtain ⟨r0, r1, r2, r3, r4, r5, r6, r7, r8⟩ := hV_a b.hV
  have k_ := fun a (ha : a ∈ [17, 18, 19, 21, 22, 23, 27, 28, 53, 54, 55, 58, 59, 60, 62, 63]) => f.2.1 a (hA a ha)
  refine ⟨hV_of (by rw [k_ 17 (by decide), k_ 53 (by decide)]; exact r0) (by rw [k_ 18 (by decide), k_ 54 (by decide)]; exact r1) (by rw [k_ 19 (by decide), k_ 55 (by decide)]; exact r2) (by rw [k_ 21 (by decide), k_ 58 (by decide)]; exact r3) (by rw [k_ 22 (by decide), k_ 59 (by decide)]; exact r4) (by rw [k_ 23 (by decide), k_ 60 (by decide)]; exact r5) (by rw [e25, e61]) (by rw [k_ 27 (by decide), k_ 62 (by decide)]; exact r7) (by rw [k_ 28 (by decide), k_ 63 (by decide)]; exact r8), (f.1 _ (hI _ (by decide))).trans b.wkC, (f.1 _ (hI _ (by decide))).trans b.wkM, b.wk1, b.wk6, (f.1 _ (hI _ (by decide))).trans b.rnC, (f.1 _ (hI _ (by decide))).trans b.rnM, b.rn5, (f.1 _ (hI _ (by decide))).trans b.dnC, (f.1 _ (hI _ (by decide))).trans b.dnM, ⟨b.cnt.1, ?_⟩, ?_, ?_, ?_⟩
  · intro c hc
    show T.2.1 27 c = nI (ix (T.2.1 27 c)) ∧ ix (T.2.1 27 c) < 120
    rw [k_ 27 (by decide)]; exact b.cnt.2 c hc
  · intro d hd
    show T.2.1 25 d = nI (ix (T.2.1 25 d)) ∧ ix (T.2.1 25 d) < 6
    obtain ⟨w, hw, ew⟩ := hP d hd
    rw [e25, ew, ix_nI (by omega)]; exact ⟨rfl, hw⟩
  · show T.2.1 17 0 = nI 0 ∧ T.2.1 18 0 = nI 0
    rw [k_ 17 (by decide), k_ 18 (by decide)]; exact b.rst
  · refine ⟨?_, ?_, ?_⟩
    · intro w hw
      show ∃ a b, a ≤ 99 ∧ b ≤ 99 ∧ T.2.1 17 w = nI a ∧ T.2.1 18 w = nI b
      rw [k_ 17 (by decide), k_ 18 (by decide)]; exact b.val.1 w hw
    · intro r hr
      show ∃ g, g ≤ 1500 ∧ T.2.1 21 r = nI g
      rw [k_ 21 (by decide)]; exact b.val.2.1 r hr
    · intro i hi
      show ∃ a b, a ≤ 1000 ∧ b ≤ 1000 ∧ T.2.1 22 i = nI a ∧ T.2.1 23 i = nI b
      rw [k_ 22 (by decide), k_ 23 (by decide)]; exact b.val.2.2 i hi
/-- works' numbers have changed, alike in both -/
theorem B1.ws {I A J : List Nat} {S T : k_S} {wk rn dn wk2 : Nat} (b : B1 S wk rn dn) (f : Frm I A J S T) (hI : ∀ k ∈ [1003, 2604, 1302, 2611], k ∉ I) (hA : ∀ a ∈ [21, 22, 23, 25, 27, 28, 58, 59, 60, 61, 62, 63], a ∉ A) (e0 : T.2.1 17 = T.2.1 53) (e1 : T.2.1 18 = T.2.1 54) (e2 : T.2.1 19 = T.2.1 55) (c1 : T.1 803 = nI wk2) (c2 : T.1 2600 = nI wk2) (h1 : 1 ≤ wk2) (h6 : wk2 ≤ 6) (hr : T.2.1 17 0 = nI 0 ∧ T.2.1 18 0 = nI 0) (hv : ∀ w, w < 6 → ∃ a b, a ≤ 99 ∧ b ≤ 99 ∧ T.2.1 17 w = nI a ∧ T.2.1 18 w = nI b) : B1 T wk2 rn dn := by
  obtain ⟨r0, r1, r2, r3, r4, r5, r6, r7, r8⟩ := hV_a b.hV
  have k_ := fun a (ha : a ∈ [21, 22, 23, 25, 27, 28, 58, 59, 60, 61, 62, 63]) => f.2.1 a (hA a ha)
  refine ⟨hV_of e0 e1 e2 (by rw [k_ 21 (by decide), k_ 58 (by decide)]; exact r3) (by rw [k_ 22 (by decide), k_ 59 (by decide)]; exact r4) (by rw [k_ 23 (by decide), k_ 60 (by decide)]; exact r5) (by rw [k_ 25 (by decide), k_ 61 (by decide)]; exact r6) (by rw [k_ 27 (by decide), k_ 62 (by decide)]; exact r7) (by rw [k_ 28 (by decide), k_ 63 (by decide)]; exact r8), c1, c2, h1, h6, (f.1 _ (hI _ (by decide))).trans b.rnC, (f.1 _ (hI _ (by decide))).trans b.rnM, b.rn5, (f.1 _ (hI _ (by decide))).trans b.dnC, (f.1 _ (hI _ (by decide))).trans b.dnM, ⟨b.cnt.1, ?_⟩, ?_, hr, hv, ?_, ?_⟩
  · intro c hc
    show T.2.1 27 c = nI (ix (T.2.1 27 c)) ∧ ix (T.2.1 27 c) < 120
    rw [k_ 27 (by decide)]; exact b.cnt.2 c hc
  · intro d hd
    show T.2.1 25 d = nI (ix (T.2.1 25 d)) ∧ ix (T.2.1 25 d) < 6
    rw [k_ 25 (by decide)]; exact b.pln d hd
  · intro r hr
    show ∃ g, g ≤ 1500 ∧ T.2.1 21 r = nI g
    rw [k_ 21 (by decide)]; exact b.val.2.1 r hr
  · intro i hi
    show ∃ a b, a ≤ 1000 ∧ b ≤ 1000 ∧ T.2.1 22 i = nI a ∧ T.2.1 23 i = nI b
    rw [k_ 22 (by decide), k_ 23 (by decide)]; exact b.val.2.2 i hi
theorem bo_work {S : k_S} (h : RRx S) (x : Int32) : Both MX11_work MX12_work [.int x] S := by
  have h0 := h
  obtain ⟨wk, rn, dn, tp, T0, T1, T2, lo, tn, nd, nu, kn, ra, h⟩ := h
  have b := h.b1
  have qc := pX11_work (S := S) b.wkC b.wk1 b.wk6 x
  by_cases c : ¬ x < 0 ∧ x ≤ nI 99999
  · by_cases c2 : wk = 6
    · rw [sWork, if_pos c, wkU, if_pos c2] at qc
      have qm := pX12_work (S := S) b.wkM b.wk1 b.wk6 x
      rw [mWk, if_pos c, if_pos c2] at qm
      exact both_0 (dc := 2) (dm := 1) h0 (by decide) (by decide) qc qm
    · rw [sWork, if_pos c, wkU, if_neg c2] at qc
      have w6 := b.wk6
      obtain ⟨z, hz, rfl⟩ := k_rngle (Int32.not_lt.mp c.1) c.2 (by decide)
      have e1 : nI z / nI 1000 = nI (z / 1000) := (dmN (by omega) (by decide) (by decide)).1
      have e2 : rm (nI z / nI 10) (nI 100) = nI (z / 10 % 100) := by rw [(dmN (show z < 2 ^ 31 by omega) (by decide) (by decide)).1]; exact (dmN (by omega) (by decide) (by decide)).2
      have e3 : rm (nI z) (nI 10) = nI (z % 10) := (dmN (by omega) (by decide) (by decide)).2
      rw [e1, e2, e3] at qc
      obtain ⟨S1, hS1⟩ : ∃ S1, wkAdd S wk (nI (z / 1000)) (nI (z / 10 % 100)) (nI (z % 10)) = S1 := ⟨_, rfl⟩
      have f1 : Frm [803] [17, 18, 19] [] S S1 := by rw [← hS1]; exact ((((Frm.rf S).sa (by decide) _).sa (by decide) _).sa (by decide) _).si (by decide) _
      have a17 : S1.2.1 17 = va_up (S.2.1 17) wk (nI (z / 1000)) := by rw [← hS1]; rfl
      have a18 : S1.2.1 18 = va_up (S.2.1 18) wk (nI (z / 10 % 100)) := by rw [← hS1]; rfl
      have a19 : S1.2.1 19 = va_up (S.2.1 19) wk (nI (z % 10)) := by rw [← hS1]; rfl
      have a803 : S1.1 803 = nI (wk + 1) := by rw [← hS1]; rfl
      rw [hS1] at qc
      have qm := pX12_work (S := S1) ((f1.1 2600 (by decide)).trans b.wkM) b.wk1 b.wk6 (nI z)
      rw [mWk, if_pos c, if_neg c2, e1, e2, e3, f1.2.1 53 (by decide), f1.2.1 54 (by decide), f1.2.1 55 (by decide)] at qm
      refine both_t (dc := 2) (dm := 1) (by decide) (by decide) qc qm ?_
      obtain ⟨T, hT⟩ : ∃ T, si (sa (sa (sa S1 53 (va_up (S.2.1 53) wk (nI (z / 1000)))) 54 (va_up (S.2.1 54) wk (nI (z / 10 % 100)))) 55 (va_up (S.2.1 55) wk (nI (z % 10)))) 2600 (nI (wk + 1)) = T := ⟨_, rfl⟩
      have f2 : Frm [2600] [53, 54, 55] [] S1 T := by rw [← hT]; exact ((((Frm.rf S1).sa (by decide) _).sa (by decide) _).sa (by decide) _).si (by decide) _
      have f : Frm [803, 2600] [17, 18, 19, 53, 54, 55] [] S T := (f1.wk (by decide) (by decide) (by decide)).tr (f2.wk (by decide) (by decide) (by decide))
      have t17 : T.2.1 17 = va_up (S.2.1 17) wk (nI (z / 1000)) := (f2.2.1 17 (by decide)).trans a17
      have t18 : T.2.1 18 = va_up (S.2.1 18) wk (nI (z / 10 % 100)) := (f2.2.1 18 (by decide)).trans a18
      have t19 : T.2.1 19 = va_up (S.2.1 19) wk (nI (z % 10)) := (f2.2.1 19 (by decide)).trans a19
      have t53 : T.2.1 53 = va_up (S.2.1 53) wk (nI (z / 1000)) := by rw [← hT]; rfl
      have t54 : T.2.1 54 = va_up (S.2.1 54) wk (nI (z / 10 % 100)) := by rw [← hT]; rfl
      have t55 : T.2.1 55 = va_up (S.2.1 55) wk (nI (z % 10)) := by rw [← hT]; rfl
      have g2 : T.1 2600 = nI (wk + 1) := by rw [← hT]; rfl
      rw [hT]
      obtain ⟨r0, r1, r2, _⟩ := hV_a b.hV
      have hw1 := b.wk1
      have hb1 : B1 T (wk + 1) rn dn := by
        refine b.ws f (by decide) (by decide) (by rw [t17, t53, r0]) (by rw [t18, t54, r1]) (by rw [t19, t55, r2]) ((f2.1 803 (by decide)).trans a803) g2 (by omega) (by omega) ?_ ?_
        · rw [t17, t18, va_ne _ _ (by omega), va_ne _ _ (by omega)]; exact b.rst
        · intro w hw
          rw [t17, t18]
          by_cases e : w = wk
          · subst e; rw [va_a1, va_a1]; exact ⟨z / 1000, z / 10 % 100, by omega, by omega, rfl, rfl⟩
          · rw [va_ne _ _ e, va_ne _ _ e]; exact b.val.1 w hw
      exact ⟨wk + 1, rn, dn, tp, T0, T1, T2, lo, tn, nd, nu, kn, ra, ⟨hb1, h.b2.fr f (by decide) (by decide), h.b3.fr f (by decide) (by decide), h.b4.fr f (by decide), h.b5.fr f (by decide) (by decide), h.b6.fr f (by decide) (by decide), h.b7.fr f (by decide) (by decide), h.b8.fr f (by decide) (by decide)⟩⟩
  · rw [sWork, if_neg c] at qc
    have qm := pX12_work (S := S) b.wkM b.wk1 b.wk6 x
    rw [mWk, if_neg c] at qm
    exact both_0 (dc := 2) (dm := 1) h0 (by decide) (by decide) qc qm
theorem lft_le {g : Nat} (hg : g ≤ 1000) : ∀ k, ∃ x, x ≤ 1000 ∧ lft (nI g) k = nI x
  | 0 => ⟨1000, by omega, rfl⟩
  | k + 1 => by
    obtain ⟨x, hx, e⟩ := lft_le hg k
    have hm : x * (1000 - g) ≤ 1000 * 1000 := Nat.mul_le_mul hx (by omega)
    refine ⟨x * (1000 - g) / 1000, by omega, ?_⟩
    rw [lft, e, pk_sub (by omega), pk_mul, pk_div (by omega) (by decide) (by decide)]
theorem fillO_cs (g : Int32) (o : Nat) (f : Nat → Int32) (i : Nat) : (∃ k, fillO g o f 120 i = lft g k) ∨ fillO g o f 120 i = f i := by
  by_cases h : o ≤ i ∧ i < o + 120
  · exact Or.inl ⟨i - o, fillO_lt g o f 120 i h.1 h.2⟩
  · right
    suffices ∀ n, n ≤ 120 → fillO g o f n i = f i from this 120 (Nat.le_refl _)
    intro n
    induction n with
    | zero => intro _; rfl
    | succ n ih => intro hn; rw [fillO, va_ne _ _ (by omega)]; exact ih (by omega)
theorem bo_runner {S : k_S} (h : RRx S) (x g : Int32) : Both MX11_runner MX12_runner [.int x, .int g] S := by
  have h0 := h
  obtain ⟨wk, rn, dn, tp, T0, T1, T2, lo, tn, nd, nu, kn, ra, h⟩ := h
  have b := h.b1
  have r5 := b.rn5
  have qc := pX11_runner (S := S) b.rnC b.rn5 x g
  by_cases c : pRun x g
  · by_cases c2 : rn = 5
    · rw [sRun, if_pos c, rnU, if_pos c2] at qc
      have qm := pX12_runner (S := S) b.rnM b.rn5 x g
      rw [mRn, if_pos c, if_pos c2] at qm
      exact both_0 (dc := 3) (dm := 1) h0 (by decide) (by decide) qc qm
    · rw [sRun, if_pos c, rnU, if_neg c2] at qc
      obtain ⟨S1, hS1⟩ : ∃ S1, rnAdd S rn (x / nI 1000) (rm x (nI 1000)) g = S1 := ⟨_, rfl⟩
      have f1 : Frm [1003] [21, 22, 23] [] S S1 := by rw [← hS1]; exact ((((Frm.rf S).sa (by decide) _).sa (by decide) _).sa (by decide) _).si (by decide) _
      have a21 : S1.2.1 21 = va_up (S.2.1 21) rn g := by rw [← hS1]; rfl
      have a22 : S1.2.1 22 = fillO (x / nI 1000) (rn * 120) (S.2.1 22) 120 := by rw [← hS1]; rfl
      have a23 : S1.2.1 23 = fillO (rm x (nI 1000)) (rn * 120) (S.2.1 23) 120 := by rw [← hS1]; rfl
      have a1003 : S1.1 1003 = nI (rn + 1) := by rw [← hS1]; rfl
      rw [hS1] at qc
      have qm := pX12_runner (S := S1) ((f1.1 2604 (by decide)).trans b.rnM) b.rn5 x g
      rw [mRn, if_pos c, if_neg c2] at qm
      refine both_t (dc := 3) (dm := 1) (by decide) (by decide) qc qm ?_
      obtain ⟨T, hT⟩ : ∃ T, si (mRl (sa (sa (sa S1 56 (va_up (S1.2.1 56) rn (x / nI 1000))) 57 (va_up (S1.2.1 57) rn (rm x (nI 1000)))) 58 (va_up (S1.2.1 58) rn g)) rn (x / nI 1000) (rm x (nI 1000)) 120) 2604 (nI (rn + 1)) = T := ⟨_, rfl⟩
      have f2 : Frm [2604] [56, 57, 58, 59, 60] [] S1 T := by rw [← hT]; exact ((((((Frm.rf S1).sa (by decide) _).sa (by decide) _).sa (by decide) _).sa (by decide) _).sa (by decide) _).si (by decide) _
      have f : Frm [1003, 2604] [21, 22, 23, 56, 57, 58, 59, 60] [] S T := (f1.wk (by decide) (by decide) (by decide)).tr (f2.wk (by decide) (by decide) (by decide))
      have t21 : T.2.1 21 = va_up (S.2.1 21) rn g := (f2.2.1 21 (by decide)).trans a21
      have t22 : T.2.1 22 = fillO (x / nI 1000) (rn * 120) (S.2.1 22) 120 := (f2.2.1 22 (by decide)).trans a22
      have t23 : T.2.1 23 = fillO (rm x (nI 1000)) (rn * 120) (S.2.1 23) 120 := (f2.2.1 23 (by decide)).trans a23
      have t58 : T.2.1 58 = va_up (S.2.1 58) rn g := by rw [← f1.2.1 58 (by decide), ← hT]; rfl
      have t59 : T.2.1 59 = fillO (x / nI 1000) (rn * 120) (S.2.1 59) 120 := by rw [← f1.2.1 59 (by decide), ← hT]; rfl
      have t60 : T.2.1 60 = fillO (rm x (nI 1000)) (rn * 120) (S.2.1 60) 120 := by rw [← f1.2.1 60 (by decide), ← hT]; rfl
      have g1 : T.1 1003 = nI (rn + 1) := (f2.1 1003 (by decide)).trans a1003
      have g2 : T.1 2604 = nI (rn + 1) := by rw [← hT]; rfl
      rw [hT]
      obtain ⟨r0, r1, r2, r3, r4, r5', r6, r7, r8⟩ := hV_a b.hV
      have k_ := fun a ha => f.2.1 a ha
      obtain ⟨⟨c1, c3, c4⟩, c5⟩ := c
      obtain ⟨u, hu, eu⟩ := k_rngle (Int32.le_trans (by decide) c3.1) c3.2 (by decide)
      obtain ⟨v, hv, ev⟩ := k_rngle (Int32.le_trans (by decide) c4.1) c4.2 (by decide)
      obtain ⟨gg, hgg, rfl⟩ := k_rngle (Int32.le_trans (by decide) c5.1) c5.2 (by decide)
      have hb1 : B1 T wk (rn + 1) dn := by
        refine ⟨hV_of (by rw [k_ 17 (by decide), k_ 53 (by decide)]; exact r0) (by rw [k_ 18 (by decide), k_ 54 (by decide)]; exact r1) (by rw [k_ 19 (by decide), k_ 55 (by decide)]; exact r2) (by rw [t21, t58, r3]) (by rw [t22, t59, r4]) (by rw [t23, t60, r5']) (by rw [k_ 25 (by decide), k_ 61 (by decide)]; exact r6) (by rw [k_ 27 (by decide), k_ 62 (by decide)]; exact r7) (by rw [k_ 28 (by decide), k_ 63 (by decide)]; exact r8), (f.1 803 (by decide)).trans b.wkC, (f.1 2600 (by decide)).trans b.wkM, b.wk1, b.wk6, g1, g2, by omega, (f.1 1302 (by decide)).trans b.dnC, (f.1 2611 (by decide)).trans b.dnM, ⟨b.cnt.1, ?_⟩, ?_, ?_, ?_, ?_, ?_⟩
        · intro c9 hc9
          show T.2.1 27 c9 = nI (ix (T.2.1 27 c9)) ∧ ix (T.2.1 27 c9) < 120
          rw [k_ 27 (by decide)]; exact b.cnt.2 c9 hc9
        · intro d2 hd2
          show T.2.1 25 d2 = nI (ix (T.2.1 25 d2)) ∧ ix (T.2.1 25 d2) < 6
          rw [k_ 25 (by decide)]; exact b.pln d2 hd2
        · show T.2.1 17 0 = nI 0 ∧ T.2.1 18 0 = nI 0
          rw [k_ 17 (by decide), k_ 18 (by decide)]; exact b.rst
        · intro w9 hw9
          show ∃ a b, a ≤ 99 ∧ b ≤ 99 ∧ T.2.1 17 w9 = nI a ∧ T.2.1 18 w9 = nI b
          rw [k_ 17 (by decide), k_ 18 (by decide)]; exact b.val.1 w9 hw9
        · intro r9 hr9
          show ∃ g, g ≤ 1500 ∧ T.2.1 21 r9 = nI g
          rw [t21]
          by_cases e : r9 = rn
          · subst e; rw [va_a1]; exact ⟨gg, hgg, rfl⟩
          · rw [va_ne _ _ e]; exact b.val.2.1 r9 hr9
        · intro i hi
          show ∃ a b, a ≤ 1000 ∧ b ≤ 1000 ∧ T.2.1 22 i = nI a ∧ T.2.1 23 i = nI b
          rw [t22, t23, eu, ev]
          obtain ⟨o1, o2, ho1, ho2, eo1, eo2⟩ := b.val.2.2 i hi
          have hx : ∃ a, a ≤ 1000 ∧ fillO (nI u) (rn * 120) (S.2.1 22) 120 i = nI a := by
            rcases fillO_cs (nI u) (rn * 120) (S.2.1 22) i with ⟨k, e⟩ | e
            · rw [e]; exact lft_le (by omega) k
            · exact ⟨o1, ho1, e.trans eo1⟩
          have hy : ∃ a, a ≤ 1000 ∧ fillO (nI v) (rn * 120) (S.2.1 23) 120 i = nI a := by
            rcases fillO_cs (nI v) (rn * 120) (S.2.1 23) i with ⟨k, e⟩ | e
            · rw [e]; exact lft_le (by omega) k
            · exact ⟨o2, ho2, e.trans eo2⟩
          obtain ⟨a1, ha1, ea1⟩ := hx
          obtain ⟨a2, ha2, ea2⟩ := hy
          exact ⟨a1, a2, ha1, ha2, ea1, ea2⟩
      exact ⟨wk, rn + 1, dn, tp, T0, T1, T2, lo, tn, nd, nu, kn, ra, ⟨hb1, h.b2.fr f (by decide) (by decide), h.b3.fr f (by decide) (by decide), h.b4.fr f (by decide), h.b5.fr f (by decide) (by decide), h.b6.fr f (by decide) (by decide), h.b7.fr f (by decide) (by decide), h.b8.fr f (by decide) (by decide)⟩⟩
  · rw [sRun, if_neg c] at qc
    have qm := pX12_runner (S := S) b.rnM b.rn5 x g
    rw [mRn, if_neg c] at qm
    exact both_0 (dc := 3) (dm := 1) h0 (by decide) (by decide) qc qm
