theorem ti_add {x y : Int32} (h1 : -2147483648 ≤ x.toInt + y.toInt) (h2 : x.toInt + y.toInt ≤ 2147483647) : (x + y).toInt = x.toInt + y.toInt := by
  rw [Int32.toInt_add]; exact Int.bmod_eq_of_le (by omega) (by omega)
theorem ti_sub {x y : Int32} (h1 : -2147483648 ≤ x.toInt - y.toInt) (h2 : x.toInt - y.toInt ≤ 2147483647) : (x - y).toInt = x.toInt - y.toInt := by
  rw [Int32.toInt_sub]; exact Int.bmod_eq_of_le (by omega) (by omega)
theorem tj_add {x y : Int64} (h1 : -2 ^ 62 ≤ x.toInt + y.toInt) (h2 : x.toInt + y.toInt < 2 ^ 62) : (x + y).toInt = x.toInt + y.toInt := by
  rw [Int64.toInt_add]; exact Int.bmod_eq_of_le (by omega) (by omega)
theorem add_64 {x y : Int32} (h1 : -2147483648 ≤ x.toInt + y.toInt) (h2 : x.toInt + y.toInt ≤ 2147483647) : (x + y).toInt64 = x.toInt64 + y.toInt64 := by
  refine Int64.toInt_inj.mp ?_
  rw [tj_add (by rw [Int32.toInt_toInt64, Int32.toInt_toInt64]; omega) (by rw [Int32.toInt_toInt64, Int32.toInt_toInt64]; omega), Int32.toInt_toInt64, Int32.toInt_toInt64, Int32.toInt_toInt64, ti_add h1 h2]
theorem pts_bnd {V : k_V} (hv : ValOk V) {r w k : Nat} (hr : r < 5) (hw : w < 6) (hk : k < 120) : -99000 ≤ (pts V r w k).toInt ∧ (pts V r w k).toInt ≤ 148000 := by
  obtain ⟨a, b, ha, hb, ea, eb⟩ := hv.1 w hw
  obtain ⟨g, hg, eg⟩ := hv.2.1 r hr
  obtain ⟨c, d, hc, hd, ec, ed⟩ := hv.2.2 (r * 120 + k) (by omega)
  have h1 : b * g ≤ 99 * 1500 := Nat.mul_le_mul hb hg
  have h2 : b * g / 1000 * d ≤ 148 * 1000 := Nat.mul_le_mul (by omega) hd
  have h3 : a * c ≤ 99 * 1000 := Nat.mul_le_mul ha hc
  rw [pts, str, tir, ea, eb, eg, ec, ed, pk_mul, pk_div (by omega) (by decide) (by decide), pk_mul, pk_mul, pk_sub_toInt (by omega) (by omega)]
  omega
theorem sumN_bnd {f : Nat → Int32} {A B : Nat} (hA : A ≤ 1000000) (hB : B ≤ 1000000) : ∀ n, n ≤ 1000 → (∀ i, i < n → -(A : Int) ≤ (f i).toInt ∧ (f i).toInt ≤ B) → -((n * A : Nat) : Int) ≤ (sumN f n).toInt ∧ (sumN f n).toInt ≤ ((n * B : Nat) : Int)
  | 0, _, _ => by rw [sumN, show (nI 0).toInt = 0 from by decide]; omega
  | n + 1, hn, h => by
    have q := sumN_bnd hA hB n (by omega) (fun i hi => h i (by omega))
    have q2 := h n (by omega)
    have a1 : n * A ≤ 1000 * 1000000 := Nat.mul_le_mul (by omega) hA
    have a2 : n * B ≤ 1000 * 1000000 := Nat.mul_le_mul (by omega) hB
    rw [sumN_s, ti_add (by omega) (by omega), Nat.add_mul, Nat.add_mul]
    omega
theorem bg_bnd {V : k_V} (hv : ValOk V) (hpl : PlanOk V) {r n0 : Nat} (hr : r < 5) (hn : n0 ≤ 120) (j : Nat) : -99000 ≤ (bg V r n0 j).toInt ∧ (bg V r n0 j).toInt ≤ 148000 := by
  rw [bg]
  by_cases c : j < n0
  · rw [if_pos c]; exact pts_bnd hv hr (hpl j (by omega)).2 (by omega)
  · rw [if_neg c]; decide
theorem fit_bnd {V : k_V} (hv : ValOk V) (h0 : RstOk V) (hpl : PlanOk V) {r day : Nat} (hr : r < 5) (hd : day < 120) : -11880000 ≤ (fitv V r day).toInt ∧ (fitv V r day).toInt ≤ 17760000 := by
  have q := sumN_bnd (f := bg V r (day + 1)) (A := 99000) (B := 148000) (by omega) (by omega) 120 (by omega) (fun i _ => by have := bg_bnd hv hpl hr (show day + 1 ≤ 120 by omega) i; omega)
  rw [fitv_bg h0 r hd]; omega
theorem td_bnd {x : Int} (h1 : -11880000 ≤ x) (h2 : x ≤ 17760000) : -11880 ≤ x.tdiv 1000 ∧ x.tdiv 1000 ≤ 17760 := by
  by_cases c : 0 ≤ x
  · rw [Int.tdiv_eq_ediv_of_nonneg c]; omega
  · have e : x.tdiv 1000 = -((-x).tdiv 1000) := by rw [Int.neg_tdiv, Int.neg_neg]
    rw [e, Int.tdiv_eq_ediv_of_nonneg (by omega)]; omega
theorem div_bnd {x : Int32} (h1 : -11880000 ≤ x.toInt) (h2 : x.toInt ≤ 17760000) : -11880 ≤ (x / nI 1000).toInt ∧ (x / nI 1000).toInt ≤ 17760 := by
  have e : (x / nI 1000).toInt = x.toInt.tdiv 1000 := by
    rw [Int32.toInt_div, nI_toInt (by omega), show ((1000 : Nat) : Int) = 1000 from rfl]
    have q := td_bnd h1 h2
    exact Int.bmod_eq_of_le (by omega) (by omega)
  rw [e]; exact td_bnd h1 h2
theorem ab_nn {x : Int32} {B : Nat} (h1 : -(B : Int) ≤ x.toInt) (h2 : x.toInt ≤ B) (hB : B < 2 ^ 30) : 0 ≤ (ab x).toInt ∧ (ab x).toInt ≤ B ∧ (ab x).toInt64 = if x < 0 then (-x).toInt64 else x.toInt64 := by
  rw [ab]
  by_cases c : 0 ≤ x
  · have c1 := Int32.le_iff_toInt_le.mp c
    rw [show (0 : Int32).toInt = 0 from by decide] at c1
    rw [if_pos c, if_neg (Int32.not_lt.mpr c)]; exact ⟨c1, h2, rfl⟩
  · have c1 := Int32.lt_iff_toInt_lt.mp (Int32.not_le.mp c)
    rw [show (0 : Int32).toInt = 0 from by decide] at c1
    have e : (0 - x).toInt = -x.toInt := by
      rw [ti_sub (by rw [show (0 : Int32).toInt = 0 from by decide]; omega) (by rw [show (0 : Int32).toInt = 0 from by decide]; omega), show (0 : Int32).toInt = 0 from by decide]; omega
    rw [if_neg c, if_pos (Int32.not_le.mp c)]
    refine ⟨by omega, by omega, ?_⟩
    rw [Int32.zero_sub]
theorem nI_o2 {x : Int32} {B : Nat} (h1 : 0 ≤ x.toInt) (h2 : x.toInt ≤ B) (hB : B < 2 ^ 31) : ∃ m, m ≤ B ∧ x = nI m :=
  ⟨x.toInt.toNat, by omega, Int32.toInt_inj.mp (by rw [nI_toInt (by omega)]; omega)⟩
/-- how far off one is, in both -/
theorem off_bnd {V : k_V} (hv : ValOk V) (h0 : RstOk V) (hpl : PlanOk V) {r : Nat} (hr : r < 5) {td tf : Nat → Int32} {i : Nat} (hd : ix (td i) < 120) (hb : -9999 ≤ (tf i).toInt ∧ (tf i).toInt ≤ 9999) : -27759 ≤ (fitv V r (ix (td i)) / nI 1000 - tf i).toInt ∧ (fitv V r (ix (td i)) / nI 1000 - tf i).toInt ≤ 27759 := by
  have q := fit_bnd hv h0 hpl hr hd
  have q2 := div_bnd q.1 q.2
  rw [ti_sub (by omega) (by omega)]
  omega
theorem mOf_eq {V : k_V} (hv : ValOk V) (h0 : RstOk V) (hpl : PlanOk V) {r : Nat} (hr : r < 5) {td tf : Nat → Int32} : ∀ tn, tn ≤ 10 → (∀ i, i < tn → ix (td i) < 120) → (∀ i, i < tn → -9999 ≤ (tf i).toInt ∧ (tf i).toInt ≤ 9999) → ∃ m, m ≤ tn * 27759 ∧ mis V td tf tn r = nI m ∧ mOf V td tf r tn = jN m
  | 0, _, _, _ => ⟨0, by omega, rfl, rfl⟩
  | t + 1, hn, hd, hb => by
    obtain ⟨m, hm, e1, e2⟩ := mOf_eq hv h0 hpl hr t (by omega) (fun i hi => hd i (by omega)) (fun i hi => hb i (by omega))
    have q := off_bnd hv h0 hpl hr (hd t (by omega)) (hb t (by omega))
    obtain ⟨a1, a2, a3⟩ := ab_nn (x := fitv V r (ix (td t)) / nI 1000 - tf t) (B := 27759) (by omega) (by omega) (by omega)
    obtain ⟨k, hk, ek⟩ := nI_o2 a1 a2 (by omega)
    refine ⟨m + k, by omega, ?_, ?_⟩
    · show mis V td tf t r + ab (fitv V r (ix (td t)) / nI 1000 - tf t) = _
      rw [e1, ek, nI_add]
    · rw [mOf, e2, ← a3, ek]
      refine Int64.toInt_inj.mp ?_
      rw [show (nI k).toInt64 = jN k from rfl, tj_add (by rw [jN_toInt (by omega), jN_toInt (by omega)]; omega) (by rw [jN_toInt (by omega), jN_toInt (by omega)]; omega), jN_toInt (by omega), jN_toInt (by omega), jN_toInt (by omega)]
      omega
theorem lg_lt (x y : Int64) : (lg_cmp x y < 0) ↔ x < y := by
  unfold lg_cmp
  by_cases h : x > y
  · rw [if_pos h]; exact ⟨fun q => absurd q (by decide), fun q => absurd (Int64.lt_iff_toInt_lt.mp q) (by have := Int64.lt_iff_toInt_lt.mp h; omega)⟩
  · rw [if_neg h]
    by_cases h2 : x = y
    · rw [if_pos h2]; exact ⟨fun q => absurd q (by decide), fun q => absurd (Int64.lt_iff_toInt_lt.mp q) (by rw [h2]; omega)⟩
    · rw [if_neg h2]
      refine ⟨fun _ => Int64.lt_iff_toInt_lt.mpr ?_, fun _ => by decide⟩
      have h3 : ¬ y.toInt < x.toInt := fun q => h (Int64.lt_iff_toInt_lt.mpr q)
      have h4 : ¬ x.toInt = y.toInt := fun q => h2 (Int64.toInt_inj.mp q)
      omega
theorem jN_lt {a b : Nat} (ha : a < 2 ^ 31) (hb : b < 2 ^ 31) : jN a < jN b ↔ nI a < nI b := by
  rw [Int64.lt_iff_toInt_lt, Int32.lt_iff_toInt_lt, jN_toInt ha, jN_toInt hb, nI_toInt ha, nI_toInt hb]
theorem whL_at (f : Nat → Int32) : ∀ n, (whL f n).2.1 = f (whL f n).1
  | 0 => rfl
  | n + 1 => by rw [whL]; split <;> simp [whL_at f n]
theorem wh_eq {f : Nat → Int32} {F : Nat → Int64} {g : Nat → Nat} {B : Nat} (hB : B ≤ 300000) : ∀ n, n < 5 → (∀ i, i ≤ n → g i ≤ B ∧ f i = nI (g i) ∧ F i = jN (g i)) → mwN F (n + 1) = (whL f n).1 ∧ ∃ t, t ≤ (n + 1) * B ∧ mwS F (n + 1) = jN t ∧ (whL f n).2.2 = nI t ∧ (∀ i, i ≤ n → g i ≤ t)
  | 0, _, h => by
    refine ⟨by rw [mwN, mwN]; split <;> rfl, g 0, by have := (h 0 (by omega)).1; omega, ?_, (h 0 (by omega)).2.1, fun i hi => by rw [show i = 0 by omega]; omega⟩
    rw [mwS, mwS, (h 0 (by omega)).2.2]; exact Int64.zero_add _
  | n + 1, hn, h => by
    obtain ⟨e1, t, ht, e2, e3, e4⟩ := wh_eq hB n (by omega) (fun i hi => h i (by omega))
    have hl := whL_le f n
    have h1 := h (n + 1) (by omega)
    have h2 := h (whL f n).1 (by omega)
    have hc : lg_cmp (F (n + 1)) (F (mwN F (n + 1))) < 0 ↔ f (n + 1) < (whL f n).2.1 := by
      rw [lg_lt, e1, h1.2.2, h2.2.2, whL_at, h2.2.1, h1.2.1]; exact jN_lt (by omega) (by omega)
    have hm : (n + 1) * B ≤ 5 * 300000 := Nat.mul_le_mul (by omega) hB
    have hm2 : (n + 1 + 1) * B = (n + 1) * B + B := by rw [Nat.add_mul, Nat.one_mul]
    have es : mwS F (n + 1 + 1) = jN (t + g (n + 1)) := by
      rw [mwS, e2, h1.2.2]
      refine Int64.toInt_inj.mp ?_
      rw [tj_add (by rw [jN_toInt (by omega), jN_toInt (by omega)]; omega) (by rw [jN_toInt (by omega), jN_toInt (by omega)]; omega), jN_toInt (by omega), jN_toInt (by omega), jN_toInt (by omega)]
      omega
    have et : (whL f n).2.2 + f (n + 1) = nI (t + g (n + 1)) := by rw [e3, h1.2.1, nI_add]
    have eg : ∀ i, i ≤ n + 1 → g i ≤ t + g (n + 1) := fun i hi => by
      by_cases c : i = n + 1
      · subst c; omega
      · have := e4 i (by omega); omega
    rw [mwN, whL]
    by_cases c : f (n + 1) < (whL f n).2.1
    · rw [if_pos c, if_pos (hc.mpr c)]; exact ⟨rfl, _, by omega, es, et, eg⟩
    · rw [if_neg c, if_neg (fun q => c (hc.mp q))]; exact ⟨e1, _, by omega, es, et, eg⟩
theorem aMWho_eq {V : k_V} (hv : ValOk V) (h0 : RstOk V) (hpl : PlanOk V) {td tf : Nat → Int32} {tn rn : Nat} (h5 : rn ≤ 5) (h10 : tn ≤ 10) (hd : ∀ i, i < tn → ix (td i) < 120) (hb : ∀ i, i < tn → -9999 ≤ (tf i).toInt ∧ (tf i).toInt ≤ 9999) (x : Int32) : aMWho V td tf tn rn (nI rn) x = aWho V td tf tn rn (nI rn) x := by
  rw [aMWho, aWho]
  by_cases c : x = -1 ∨ pW (nI rn) x
  · rw [if_pos c, if_pos c]
    by_cases c2 : tn = 0 ∨ rn = 0
    · rw [if_pos c2, if_pos c2]
    · rw [if_neg c2, if_neg c2]
      obtain ⟨n, rfl⟩ : ∃ n, rn = n + 1 := ⟨rn - 1, by omega⟩
      have hex : ∀ r, ∃ m, r < 5 → m ≤ 277590 ∧ mis V td tf tn r = nI m ∧ mOf V td tf r tn = jN m := by
        intro r
        by_cases hr : r < 5
        · obtain ⟨m, hm, e1, e2⟩ := mOf_eq hv h0 hpl hr tn h10 hd hb
          exact ⟨m, fun _ => ⟨by omega, e1, e2⟩⟩
        · exact ⟨0, fun q => absurd q hr⟩
      obtain ⟨g, hg⟩ : ∃ g : Nat → Nat, ∀ r, r < 5 → g r ≤ 277590 ∧ mis V td tf tn r = nI (g r) ∧ mOf V td tf r tn = jN (g r) := ⟨fun r => (hex r).choose, fun r => (hex r).choose_spec⟩
      obtain ⟨e1, t, ht, e2, e3, e4⟩ := wh_eq (f := mis V td tf tn) (F := fun r => mOf V td tf r tn) (g := g) (B := 277590) (by omega) n (by omega) (fun i hi => hg i (by omega))
      rw [show n + 1 - 1 = n by omega, e1, e2, e3]
      by_cases c3 : x = -1
      · rw [if_pos c3, if_pos c3]
      · rw [if_neg c3, if_neg c3]
        have ht2 : (n + 1) * 277590 ≤ 5 * 277590 := Nat.mul_le_mul (by omega) (Nat.le_refl _)
        have hx : pW (nI (n + 1)) x := by
          rcases c with q | q
          · exact absurd q c3
          · exact q
        obtain ⟨r, hr, rfl⟩ := pW_ex hx rfl (by omega)
        rw [ix_nI (by omega), (hg r (by omega)).2.1, (hg r (by omega)).2.2]
        have hgr := (hg r (by omega)).1
        have hgt := e4 r (by omega)
        by_cases c4 : t = 0
        · subst c4
          rw [if_pos (show jN 0 = 0 from rfl), if_neg (by decide)]
        · have n1 : ¬ jN t = 0 := fun q => by
            have q2 := congrArg Int64.toInt q
            rw [jN_toInt (by omega), show (0 : Int64).toInt = 0 from by decide] at q2; omega
          have n2 : 0 < nI t := Int32.lt_iff_toInt_lt.mpr (by rw [nI_toInt (by omega), show (0 : Int32).toInt = 0 from by decide]; omega)
          rw [if_neg n1, if_pos n2, pk_mul, pk_div (by omega) (by omega) (by omega), show (1000 : Int64) = jN 1000 from by decide, jN_mul (by omega) (by omega) (by omega), jN_div (by omega) (by omega) (by omega)]
          have hq : 1000 * g r / t ≤ 1000 := Nat.div_le_of_le_mul (by rw [Nat.mul_comm]; exact Nat.mul_le_mul hgt (Nat.le_refl _))
          generalize 1000 * g r / t = q at hq
          rw [jN_sub (by omega) hq, jN_32 (by omega), pk_sub hq]
  · rw [if_neg c, if_neg c]
theorem bo_who {S : k_S} (h : RRx S) (x : Int32) : Both MX11_who MX12_who [.int x] S := by
  have h0 := h
  obtain ⟨wk, rn, dn, tp, T0, T1, T2, lo, tn, nd, nu, kn, ra, h⟩ := h
  have b := h.b1
  have qc := pX11_who (S := S) (V := vC S) rfl b.pln h.b5.tsC b.rnC b.rn5 x
  have qm := pX12_who (S := S) (V := vC S) b.hV.symm b.pln h.b5.tsM b.rnM b.rn5 x
  rw [b.rnM, ← h.b5.dys, ← h.b5.fnd, aMWho_eq b.val b.rst b.pln b.rn5 h.b5.tsC.2.1 (fun i hi => (h.b5.tsC.2.2 i hi).2) h.b5.bnd x] at qm
  rw [b.rnC] at qc
  exact both_0 (dc := 5) (dm := 4) h0 (by decide) (by decide) qc qm
