/-- of how many a thing holds -/
def cP (p : Nat → Bool) : Nat → Nat
  | 0 => 0
  | n + 1 => cP p n + if p n = true then 1 else 0
theorem cP_le {p q : Nat → Bool} : ∀ n, (∀ j, j < n → p j = true → q j = true) → cP p n ≤ cP q n
  | 0, _ => Nat.le_refl _
  | n + 1, h => by
    have ih := cP_le n (fun j hj => h j (by omega))
    have h2 := h n (by omega)
    rw [cP, cP]
    by_cases c : p n = true
    · rw [if_pos c, if_pos (h2 c)]; omega
    · rw [if_neg c]; omega
theorem cP_lt {p q : Nat → Bool} {j0 : Nat} (hq : q j0 = true) (hp0 : ¬ p j0 = true) : ∀ n, j0 < n → (∀ j, j < n → p j = true → q j = true) → cP p n < cP q n
  | 0, h0, _ => absurd h0 (by omega)
  | n + 1, h0, h => by
    rw [cP, cP]
    by_cases e : j0 = n
    · subst e
      have ih := cP_le j0 (fun j hj => h j (by omega))
      rw [if_neg hp0, if_pos hq]; omega
    · have ih := cP_lt hq hp0 n (by omega) (fun j hj => h j (by omega))
      have h2 := h n (by omega)
      by_cases c : p n = true
      · rw [if_pos c, if_pos (h2 c)]; omega
      · rw [if_neg c]; omega
theorem cP_cg {p q : Nat → Bool} : ∀ n, (∀ j, j < n → p j = q j) → cP p n = cP q n
  | 0, _ => rfl
  | n + 1, h => by rw [cP, cP, cP_cg n (fun j hj => h j (by omega)), h n (by omega)]
theorem cP_up {p q : Nat → Bool} {j0 : Nat} (hq : q j0 = true) (hp0 : ¬ p j0 = true) (h : ∀ j, j ≠ j0 → q j = p j) : ∀ n, j0 < n → cP q n = cP p n + 1
  | 0, h0 => absurd h0 (by omega)
  | n + 1, h0 => by
    rw [cP, cP]
    by_cases e : j0 = n
    · subst e
      rw [if_neg hp0, if_pos hq, cP_cg j0 (fun j hj => h j (by omega))]
    · rw [cP_up hq hp0 h n (by omega), h n (by omega)]; omega
/-- one day stands ahead of the other -/
abbrev ahd (B : Nat → Int32) (a b : Nat) : Prop := B b < B a ∨ (B a = B b ∧ a < b)
theorem ahd_i (B : Nat → Int32) (a b : Nat) : ahd B a b ↔ ((B b).toInt < (B a).toInt ∨ ((B a).toInt = (B b).toInt ∧ a < b)) := by
  rw [ahd, Int32.lt_iff_toInt_lt, Int32.toInt_inj]
theorem rk_cP (B : Nat → Int32) (d : Nat) : ∀ n, rkN B d n = cP (fun j => decide (ahd B (d / 7 * 7 + j) d)) n
  | 0 => rfl
  | n + 1 => by
    rw [rkN, cP, rk_cP B d n]
    by_cases c : ahd B (d / 7 * 7 + n) d
    · rw [if_pos c, if_pos (decide_eq_true c)]
    · rw [if_neg c, if_neg (by simpa using c)]
theorem i0_lt (x : Int32) : nI 0 < x ↔ 0 < x.toInt := by rw [Int32.lt_iff_toInt_lt, nI_toInt (by decide)]; rfl
/-- what one choice finds -/
theorem co_spec (C B : Nat → Int32) (f0 : Nat) : ∀ n, (∀ e, (co C B f0 n).1 = some e → f0 ≤ e ∧ e < f0 + n ∧ C e = 0 ∧ 0 < (B e).toInt ∧ (co C B f0 n).2 = B e ∧ ∀ d, f0 ≤ d → d < f0 + n → C d = 0 → (B d).toInt < (B e).toInt ∨ ((B d).toInt = (B e).toInt ∧ e ≤ d)) ∧ ((co C B f0 n).1 = none → (co C B f0 n).2 = nI 0 ∧ ∀ d, f0 ≤ d → d < f0 + n → C d = 0 → ¬ 0 < (B d).toInt)
  | 0 => ⟨fun e h => (by cases h), fun _ => ⟨rfl, fun d h1 h2 => by omega⟩⟩
  | n + 1 => by
    obtain ⟨i1, i2⟩ := co_spec C B f0 n
    have hv : (co C B f0 n).2 < B (f0 + n) ↔ (co C B f0 n).2.toInt < (B (f0 + n)).toInt := Int32.lt_iff_toInt_lt
    by_cases c : C (f0 + n) = 0 ∧ (co C B f0 n).2 < B (f0 + n)
    · rw [co, if_pos c]
      have c2 := hv.mp c.2
      refine ⟨fun e h => ?_, fun h => (by cases h)⟩
      have he : e = f0 + n := by cases h; rfl
      subst he
      rcases hco : (co C B f0 n).1 with _ | e0
      · obtain ⟨a1, a2⟩ := i2 hco
        rw [a1, nI_toInt (by decide)] at c2
        refine ⟨by omega, by omega, c.1, by omega, rfl, fun d h1 h2 h3 => ?_⟩
        by_cases ed : d = f0 + n
        · subst ed; right; exact ⟨rfl, Nat.le_refl _⟩
        · have := a2 d h1 (by omega) h3; left; omega
      · obtain ⟨a1, a2, a3, a4, a5, a6⟩ := i1 e0 hco
        rw [a5] at c2
        refine ⟨by omega, by omega, c.1, by omega, rfl, fun d h1 h2 h3 => ?_⟩
        by_cases ed : d = f0 + n
        · subst ed; right; exact ⟨rfl, Nat.le_refl _⟩
        · have := a6 d h1 (by omega) h3; left; omega
    · rw [co, if_neg c]
      refine ⟨fun e h => ?_, fun h => ?_⟩
      · obtain ⟨a1, a2, a3, a4, a5, a6⟩ := i1 e h
        refine ⟨a1, by omega, a3, a4, a5, fun d h1 h2 h3 => ?_⟩
        by_cases ed : d = f0 + n
        · subst ed
          have q : ¬ (co C B f0 n).2.toInt < (B (f0 + n)).toInt := fun q => c ⟨h3, hv.mpr q⟩
          rw [a5] at q; omega
        · exact a6 d h1 (by omega) h3
      · obtain ⟨a1, a2⟩ := i2 h
        refine ⟨a1, fun d h1 h2 h3 => ?_⟩
        by_cases ed : d = f0 + n
        · subst ed
          have q : ¬ (co C B f0 n).2.toInt < (B (f0 + n)).toInt := fun q => c ⟨h3, hv.mpr q⟩
          rw [a1, nI_toInt (by decide)] at q; exact q
        · exact a2 d h1 (by omega) h3
/-- a week's choices, so many made -/
def wkI (G : Nat → Nat) (B : Nat → Int32) (f0 n t : Nat) (p q : k_S × Int32) (C : Nat → Int32) : Prop :=
  q.1 = sa p.1 32 C ∧ (∀ d, ¬ (f0 ≤ d ∧ d < f0 + n) → C d = p.1.2.1 32 d) ∧ (∀ d, f0 ≤ d → d < f0 + n → C d = 0 ∨ (C d = nI (G d) ∧ G d ≠ 0)) ∧ (∀ d e, f0 ≤ d → d < f0 + n → f0 ≤ e → e < f0 + n → ¬ C e = 0 → ahd B d e → ¬ C d = 0) ∧ cP (fun j => decide (¬ C (f0 + j) = 0)) n ≤ t ∧ (cP (fun j => decide (¬ C (f0 + j) = 0)) n = t ∨ ∀ d, f0 ≤ d → d < f0 + n → G d ≠ 0 → ¬ C d = 0) ∧ q.2 = p.2 + sumN (fun j => if C (f0 + j) = 0 then nI 0 else B (f0 + j)) n
theorem cP_0 : ∀ n, cP (fun _ => false) n = 0
  | 0 => rfl
  | n + 1 => by rw [cP, cP_0 n]; rfl
theorem wkT_inv {G : Nat → Nat} {B : Nat → Int32} {f0 : Nat} {p : k_S × Int32} (h30 : ∀ d, f0 ≤ d → d < f0 + coN f0 → p.1.2.1 30 d = nI (G d)) (h31 : ∀ d, f0 ≤ d → d < f0 + coN f0 → p.1.2.1 31 d = B d) (h32 : ∀ d, f0 ≤ d → d < f0 + coN f0 → p.1.2.1 32 d = 0) (hG : ∀ d, f0 ≤ d → d < f0 + coN f0 → G d < 6 ∧ (0 < (B d).toInt ↔ G d ≠ 0)) : ∀ t, ∃ C, wkI G B f0 (coN f0) t p (wkT f0 p t) C
  | 0 => by
    refine ⟨p.1.2.1 32, (sa_self _ _).symm, fun d _ => rfl, fun d h1 h2 => Or.inl (h32 d h1 h2), fun d e _ _ h3 h4 h5 => absurd (h32 e h3 h4) h5, ?_, ?_, ?_⟩
    · rw [cP_cg (q := fun _ => false) _ (fun j hj => by simp [h32 (f0 + j) (by omega) (by omega)]), cP_0]
      exact Nat.le_refl _
    · left
      rw [cP_cg (q := fun _ => false) _ (fun j hj => by simp [h32 (f0 + j) (by omega) (by omega)]), cP_0]
    · rw [sumN_z _ (fun j hj => by rw [if_pos (h32 (f0 + j) (by omega) (by omega))])]; exact (Int32.add_zero _).symm
  | t + 1 => by
    obtain ⟨C, y1, y2, y3, y4, y5, y6, y7⟩ := wkT_inv h30 h31 h32 hG t
    have eC : (wkT f0 p t).1.2.1 32 = C := by rw [y1]; rfl
    have eB : (wkT f0 p t).1.2.1 31 = p.1.2.1 31 := by rw [y1]; rfl
    have eG : (wkT f0 p t).1.2.1 30 = p.1.2.1 30 := by rw [y1]; rfl
    obtain ⟨s1, s2⟩ := co_spec C (p.1.2.1 31) f0 (coN f0)
    rcases hco : (co C (p.1.2.1 31) f0 (coN f0)).1 with _ | e
    · obtain ⟨a1, a2⟩ := s2 hco
      have e1 : coS (wkT f0 p t).1 f0 = (wkT f0 p t).1 := by rw [coS, eC, eB, hco]
      have e2 : coV (wkT f0 p t).1 f0 = nI 0 := by rw [coV, eC, eB, a1]
      have hall : ∀ d, f0 ≤ d → d < f0 + coN f0 → G d ≠ 0 → ¬ C d = 0 := fun d h1 h2 h3 h4 => by
        have q := a2 d h1 h2 h4
        rw [h31 d h1 h2] at q; exact q ((hG d h1 h2).2.mpr h3)
      refine ⟨C, ?_, y2, y3, y4, by omega, Or.inr hall, ?_⟩
      · rw [wkT, e1]; exact y1
      · rw [wkT, e2, addz]; exact y7
    · obtain ⟨a1, a2, a3, a4, a5, a6⟩ := s1 e hco
      have e1 : coS (wkT f0 p t).1 f0 = sa (wkT f0 p t).1 32 (va_up C e (nI (G e))) := by rw [coS, eC, eB, hco, eG]; show sa _ 32 (va_up C e (p.1.2.1 30 e)) = _; rw [h30 e a1 a2]
      have e2 : coV (wkT f0 p t).1 f0 = B e := by rw [coV, eC, eB, a5, h31 e a1 a2]
      rw [h31 e a1 a2] at a4
      have hGe := (hG e a1 a2).2.mp a4
      have hG6 := (hG e a1 a2).1
      have hne : ¬ nI (G e) = 0 := fun q => by
        have q2 := congrArg Int32.toInt q
        rw [nI_toInt (by omega), show (0 : Int32).toInt = 0 from by decide] at q2; omega
      have hmax : ∀ d, f0 ≤ d → d < f0 + coN f0 → C d = 0 → (B d).toInt < (B e).toInt ∨ ((B d).toInt = (B e).toInt ∧ e ≤ d) := fun d h1 h2 h3 => by
        have q := a6 d h1 h2 h3
        rw [h31 d h1 h2, h31 e a1 a2] at q; exact q
      have hcnt : cP (fun j => decide (¬ va_up C e (nI (G e)) (f0 + j) = 0)) (coN f0) = cP (fun j => decide (¬ C (f0 + j) = 0)) (coN f0) + 1 := by
        refine cP_up (j0 := e - f0) ?_ ?_ ?_ _ (by omega)
        · rw [show f0 + (e - f0) = e by omega, va_a1]; exact decide_eq_true hne
        · rw [show f0 + (e - f0) = e by omega]; simp [a3]
        · intro j hj; rw [va_ne _ _ (show f0 + j ≠ e by omega)]
      have hk : cP (fun j => decide (¬ C (f0 + j) = 0)) (coN f0) = t := by
        rcases y6 with q | q
        · exact q
        · exact absurd a3 (q e a1 a2 hGe)
      refine ⟨va_up C e (nI (G e)), ?_, ?_, ?_, ?_, by rw [hcnt]; omega, Or.inl (by rw [hcnt, hk]), ?_⟩
      · rw [wkT, e1, y1, sa_sa]
      · intro d hd; rw [va_ne _ _ (fun q => hd (by rw [q]; exact ⟨a1, a2⟩))]; exact y2 d hd
      · intro d h1 h2
        by_cases c : d = e
        · subst c; right; rw [va_a1]; exact ⟨rfl, hGe⟩
        · rw [va_ne _ _ c]; exact y3 d h1 h2
      · intro d x h1 h2 h3 h4 h5 h6
        by_cases c : d = e
        · subst c; rw [va_a1]; exact hne
        · rw [va_ne _ _ c]
          by_cases c2 : x = e
          · subst c2
            intro h7
            have q := hmax d h1 h2 h7
            rw [ahd_i] at h6; omega
          · rw [va_ne _ _ c2] at h5; exact y4 d x h1 h2 h3 h4 h5 h6
      · rw [wkT, e2, y7]
        show p.2 + sumN (fun j => if C (f0 + j) = 0 then nI 0 else B (f0 + j)) (coN f0) + B e = _
        have q := sumN_one (f := fun j => if C (f0 + j) = 0 then nI 0 else B (f0 + j)) (g := fun j => if va_up C e (nI (G e)) (f0 + j) = 0 then nI 0 else B (f0 + j)) (p := e - f0) (fun i hi => by show (if va_up C e (nI (G e)) (f0 + i) = 0 then nI 0 else B (f0 + i)) = _; rw [va_ne _ _ (show f0 + i ≠ e by omega)]) (coN f0) (by omega)
        rw [q]
        show _ = p.2 + (sumN (fun j => if C (f0 + j) = 0 then nI 0 else B (f0 + j)) (coN f0) - (if C (f0 + (e - f0)) = 0 then nI 0 else B (f0 + (e - f0))) + (if va_up C e (nI (G e)) (f0 + (e - f0)) = 0 then nI 0 else B (f0 + (e - f0))))
        rw [show f0 + (e - f0) = e by omega, if_pos a3, va_a1, if_neg hne]
        generalize sumN (fun j => if C (f0 + j) = 0 then nI 0 else B (f0 + j)) (coN f0) = x
        show p.2 + x + B e = p.2 + (x - 0 + B e)
        grind
theorem nI_z {k : Nat} (h : k < 2 ^ 31) : nI k = 0 ↔ k = 0 := ⟨fun q => by
    have q2 := congrArg Int32.toInt q
    rw [nI_toInt h, show (0 : Int32).toInt = 0 from by decide] at q2; omega, fun q => by subst q; rfl⟩
/-- what a week's choices come to -/
theorem wk_end {G : Nat → Nat} {B : Nat → Int32} {w n m : Nat} {p q : k_S × Int32} {C : Nat → Int32} (hn : n ≤ 7) (h : wkI G B (7 * w) n m p q C) {d : Nat} (h1 : 7 * w ≤ d) (h2 : d < 7 * w + n) : C d = nI (if rkN B d n < m then G d else 0) := by
  obtain ⟨y1, y2, y3, y4, y5, y6, y7⟩ := h
  have ef : d / 7 * 7 = 7 * w := by omega
  have er := rk_cP B d n
  rw [ef] at er
  by_cases c : C d = 0
  · by_cases cG : G d = 0
    · rw [cG, c]; split <;> rfl
    · have ek : cP (fun j => decide (¬ C (7 * w + j) = 0)) n = m := by
        rcases y6 with q | q
        · exact q
        · exact absurd c (q d h1 h2 cG)
      have hle : cP (fun j => decide (¬ C (7 * w + j) = 0)) n ≤ cP (fun j => decide (ahd B (7 * w + j) d)) n := by
        refine cP_le n (fun j hj hc => ?_)
        have hc2 := of_decide_eq_true hc
        refine decide_eq_true ?_
        have hne : 7 * w + j ≠ d := fun q => hc2 (by rw [q]; exact c)
        have hno : ¬ ahd B d (7 * w + j) := fun q => y4 d (7 * w + j) h1 h2 (by omega) (by omega) hc2 q c
        rw [ahd_i] at hno ⊢
        omega
      rw [if_neg (by omega), c]; rfl
  · rcases y3 d h1 h2 with q | ⟨q1, q2⟩
    · exact absurd q c
    · have hlt : cP (fun j => decide (ahd B (7 * w + j) d)) n < cP (fun j => decide (¬ C (7 * w + j) = 0)) n := by
        refine cP_lt (j0 := d - 7 * w) ?_ ?_ n (by omega) (fun j hj hc => ?_)
        · rw [show 7 * w + (d - 7 * w) = d by omega]; exact decide_eq_true c
        · rw [show 7 * w + (d - 7 * w) = d by omega]
          intro hc
          have hc2 := of_decide_eq_true hc
          rw [ahd_i] at hc2; omega
        · exact decide_eq_true (y4 (7 * w + j) d (by omega) (by omega) h1 h2 c (of_decide_eq_true hc))
      rw [if_pos (by omega)]; exact q1
theorem bs_v {V : k_V} (h : RstOk V) (dn r d : Nat) : ∀ n, wor V dn r (bs V dn r d n).1 d = (bs V dn r d n).2 ∧ (0 < (bs V dn r d n).2.toInt ↔ (bs V dn r d n).1 ≠ 0) ∧ 0 ≤ (bs V dn r d n).2.toInt
  | 0 => ⟨wor_0 h dn r d, ⟨fun q => absurd q (by show ¬ 0 < (nI 0).toInt; decide), fun q => absurd rfl q⟩, by show 0 ≤ (nI 0).toInt; decide⟩
  | n + 1 => by
    obtain ⟨i1, i2, i3⟩ := bs_v h dn r d n
    rw [bs]
    by_cases c : (bs V dn r d n).2 < wor V dn r (n + 1) d
    · rw [if_pos c]
      have c2 := Int32.lt_iff_toInt_lt.mp c
      exact ⟨rfl, ⟨fun _ => Nat.succ_ne_zero n, fun _ => by show 0 < (wor V dn r (n + 1) d).toInt; omega⟩, by show 0 ≤ (wor V dn r (n + 1) d).toInt; omega⟩
    · rw [if_neg c]; exact ⟨i1, i2, i3⟩
theorem cb1_f (V : k_V) (dn wk r : Nat) (S : k_S) : ∀ n, Frm [] [30, 31, 32] [] S (cb1 V dn wk r S n)
  | 0 => Frm.rf S
  | n + 1 => (((cb1_f V dn wk r S n).sa (by decide) _).sa (by decide) _).sa (by decide) _
theorem wkO_inv {V : k_V} (h : RstOk V) {dn wk r m : Nat} (h6 : wk ≤ 6) {K : k_S} (k30 : ∀ d, d < 120 → K.2.1 30 d = nI (bN V dn wk r d)) (k31 : ∀ d, d < 120 → K.2.1 31 d = bW V dn wk r d) (k32 : ∀ d, d < 120 → K.2.1 32 d = 0) : ∀ nw, nw ≤ 18 → ∃ D, (wkO m (K, nI 0) nw).1 = sa K 32 D ∧ (∀ d, d < 120 → D d = if d < 7 * nw then nI (chN V dn wk r m d) else 0) ∧ (wkO m (K, nI 0) nw).2 = chV V dn wk r m (min (7 * nw) 120)
  | 0, _ => by
    refine ⟨K.2.1 32, (sa_self _ _).symm, fun d hd => ?_, rfl⟩
    rw [k32 d hd, if_neg (by omega)]
  | nw + 1, hn => by
    obtain ⟨D, e1, e2, e3⟩ := wkO_inv h h6 (m := m) k30 k31 k32 nw (by omega)
    have hc : coN (7 * nw) = min 7 (120 - 7 * nw) := rfl
    obtain ⟨q, hq⟩ : ∃ q, wkO m (K, nI 0) nw = q := ⟨_, rfl⟩
    rw [hq] at e1 e3
    obtain ⟨C, hC⟩ := wkT_inv (G := bN V dn wk r) (B := bW V dn wk r) (f0 := 7 * nw) (p := q) (fun d h1 h2 => by
        rw [e1]; exact k30 d (by omega)) (fun d h1 h2 => by
        rw [e1]; exact k31 d (by omega)) (fun d h1 h2 => by
        rw [e1]; show D d = 0
        rw [e2 d (by omega), if_neg (by omega)]) (fun d h1 h2 => by
        have := bN_le V dn wk r d
        exact ⟨by omega, (bs_v h dn r d (wk - 1)).2.1⟩) m
    have hE := fun d h1 h2 => wk_end (d := d) (w := nw) (by omega) hC h1 h2
    have hch : ∀ d, 7 * nw ≤ d → d < 7 * nw + coN (7 * nw) → C d = nI (chN V dn wk r m d) := fun d h1 h2 => by
      rw [hE d h1 h2, chN, hc, show d / 7 * 7 = 7 * nw by omega]
    obtain ⟨y1, y2, _, _, _, _, y7⟩ := hC
    refine ⟨C, ?_, fun d hd => ?_, ?_⟩
    · rw [wkO, hq, y1, e1, sa_sa]
    · by_cases c : 7 * nw ≤ d ∧ d < 7 * nw + coN (7 * nw)
      · rw [hch d c.1 c.2, if_pos (by omega)]
      · rw [y2 d c, e1]
        show D d = _
        rw [e2 d hd]
        by_cases c2 : d < 7 * nw
        · rw [if_pos c2, if_pos (by omega)]
        · rw [if_neg c2, if_neg (by omega)]
    · rw [wkO, hq, y7, e3, show min (7 * nw) 120 = 7 * nw by omega, show min (7 * (nw + 1)) 120 = 7 * nw + coN (7 * nw) by omega, chV, sumN_add]
      congr 1
      refine sumN_congr _ (fun i hi => ?_)
      have hb := chN_le V dn wk r m (7 * nw + i)
      rw [hch (7 * nw + i) (by omega) (by omega)]
      by_cases c : chN V dn wk r m (7 * nw + i) = 0
      · rw [if_pos c, if_pos (by rw [c]; rfl)]
      · rw [if_neg c, if_neg (fun q => c ((nI_z (by omega)).mp q))]
theorem cbE_eq {V : k_V} (h : RstOk V) (dn r m : Nat) {wk : Nat} (h6 : wk ≤ 6) (S : k_S) : (cbE V dn wk r m S).2 = chV V dn wk r m 120 ∧ (∀ d, d < 120 → (cbE V dn wk r m S).1.2.1 32 d = nI (chN V dn wk r m d)) ∧ Frm [] [30, 31, 32] [] S (cbE V dn wk r m S).1 := by
  obtain ⟨D, e1, e2, e3⟩ := wkO_inv h h6 (dn := dn) (r := r) (m := m) (K := cb1 V dn wk r S 120) (fun d hd => by rw [cb1_30, fillN_at, if_pos hd]; rfl) (fun d hd => by rw [cb1_31, fillN_at, if_pos hd]; exact (bs_v h dn r d (wk - 1)).1) (fun d hd => by rw [cb1_32, fillN_at, if_pos hd]; rfl) 18 (Nat.le_refl _)
  have f := cb1_f V dn wk r S 120
  unfold cbE
  generalize cb1 V dn wk r S 120 = K at e1 e3 f ⊢
  generalize wkO m (K, nI 0) 18 = q at e1 e3 ⊢
  refine ⟨e3, fun d hd => ?_, ?_⟩
  · rw [e1]; show D d = _; rw [e2 d hd, if_pos (by omega)]
  · rw [e1]; exact f.sa (by decide) _
theorem bo_best {S : k_S} (h : RRx S) (r m x : Int32) : Both MX11_best MX12_best [.int r, .int m, .int x] S := by
  have h0 := h
  obtain ⟨wk, rn, dn, tp, T0, T1, T2, lo, tn, nd, nu, kn, ra, h⟩ := h
  have b := h.b1
  have qc := pX11_best (S := S) (V := vC S) rfl b.dnC b.cnt b.wkC b.wk1 b.wk6 b.rnC b.rn5 r m x
  rw [b.rnC] at qc
  have ea : aBst S (vC S) dn wk (nI rn) r m x = mBst (vC S) dn wk (nI rn) r m x := by
    rw [aBst, mBst]
    by_cases c : pBst (nI rn) r m x
    · rw [if_pos c, if_pos c]
      by_cases c2 : x = -1
      · rw [if_pos c2, if_pos c2]; exact (cbE_eq b.rst dn (ix r) (ix m) b.wk6 S).1
      · rw [if_neg c2, if_neg c2]
        rcases c.2.2 with q | q
        · exact absurd q c2
        · obtain ⟨d, hd, rfl⟩ := pD_ex q
          rw [ix_nI (by omega)]; exact (cbE_eq b.rst dn (ix r) (ix m) b.wk6 S).2.1 d hd
    · rw [if_neg c, if_neg c]
  have ef : Frm [] [30, 31, 32] [] S (sBst S (vC S) dn wk (nI rn) r m x) := by
    rw [sBst]
    by_cases c : pBst (nI rn) r m x
    · rw [if_pos c]; exact (cbE_eq b.rst dn (ix r) (ix m) b.wk6 S).2.2
    · rw [if_neg c]; exact Frm.rf S
  rw [ea] at qc
  refine both_x (dc := 6) (dm := 5) h0 (by decide) (by decide) (qc.mono (fun o h' q => ⟨q.1, _, q.2, ef.wk (by decide) (by decide) (by decide)⟩)) (fun S1 f1 => ?_)
  have b1 := b.fr f1 (by decide) (by decide) (by decide)
  have eV : vC S1 = vC S := f1.V (by decide)
  have qm := pX12_best (S := S1) (V := vC S1) b1.hV.symm b1.dnM b1.cnt b1.wkM b1.wk1 b1.wk6 b1.rnM b1.rn5 r m x
  rw [b1.rnM, eV] at qm
  exact Rx.x qm (by decide) (by decide) (by decide)
theorem bo_lines {S : k_S} (h : RRx S) (r x w : Int32) : Both MX11_lines MX12_lines [.int r, .int x, .int w] S := by
  have h0 := h
  obtain ⟨wk, rn, dn, tp, T0, T1, T2, lo, tn, nd, nu, kn, ra, h⟩ := h
  have b := h.b1
  have qc := pX11_lines (S := S) (V := vC S) rfl b.dnC b.cnt b.wkC b.wk1 b.wk6 b.rnC b.rn5 r x w
  rw [b.rnC, b.wkC] at qc
  have ea : aLin S (vC S) dn wk (nI rn) (nI wk) r x w = mLin (vC S) dn wk (nI rn) (nI wk) r x w := by
    rw [aLin, mLin]
    by_cases c : pLin (nI rn) (nI wk) r x w
    · rw [if_pos c, if_pos c, (cbE_eq b.rst dn (ix r) 3 b.wk6 S).1]
    · rw [if_neg c, if_neg c]
  have ef : Frm [] [30, 31, 32] [] S (sLin S (vC S) dn wk (nI rn) (nI wk) r x w) := by
    rw [sLin]
    by_cases c : pLin (nI rn) (nI wk) r x w
    · rw [if_pos c]
      by_cases c2 : lsN (vC S) dn = 0
      · rw [if_pos c2]; exact Frm.rf S
      · rw [if_neg c2]
        by_cases c3 : w = 0
        · rw [if_pos c3]; exact Frm.rf S
        · rw [if_neg c3]; exact (cbE_eq b.rst dn (ix r) 3 b.wk6 S).2.2
    · rw [if_neg c]; exact Frm.rf S
  rw [ea] at qc
  refine both_x (dc := 6) (dm := 5) h0 (by decide) (by decide) (qc.mono (fun o h' q => ⟨q.1, _, q.2, ef.wk (by decide) (by decide) (by decide)⟩)) (fun S1 f1 => ?_)
  have b1 := b.fr f1 (by decide) (by decide) (by decide)
  have eV : vC S1 = vC S := f1.V (by decide)
  have qm := pX12_lines (S := S1) (V := vC S1) b1.hV.symm b1.dnM b1.cnt b1.wkM b1.wk1 b1.wk6 b1.rnM b1.rn5 r x w
  rw [b1.rnM, b1.wkM, eV] at qm
  exact Rx.x qm (by decide) (by decide) (by decide)
