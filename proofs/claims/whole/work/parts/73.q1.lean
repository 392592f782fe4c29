/-! THE TWO SIDE BY SIDE: what holds between the class's half and the reference's -/
/-- what the rows hold -/
def ValOk (V : k_V) : Prop := (∀ w, w < 6 → ∃ a b, a ≤ 99 ∧ b ≤ 99 ∧ V 0 w = nI a ∧ V 1 w = nI b) ∧ (∀ r, r < 5 → ∃ g, g ≤ 1500 ∧ V 3 r = nI g) ∧ ∀ i, i < 600 → ∃ a b, a ≤ 1000 ∧ b ≤ 1000 ∧ V 4 i = nI a ∧ V 5 i = nI b
def B1 (S : k_S) (wk rn dn : Nat) : Prop := vC S = vM S ∧ S.1 803 = nI wk ∧ S.1 2600 = nI wk ∧ 1 ≤ wk ∧ wk ≤ 6 ∧ S.1 1003 = nI rn ∧ S.1 2604 = nI rn ∧ rn ≤ 5 ∧ S.1 1302 = nI dn ∧ S.1 2611 = nI dn ∧ CntOk (vC S) dn ∧ PlanOk (vC S) ∧ RstOk (vC S) ∧ ValOk (vC S)
theorem B1.hV {S : k_S} {wk rn dn : Nat} (h : B1 S wk rn dn) : vC S = vM S := h.1
theorem B1.wkC {S : k_S} {wk rn dn : Nat} (h : B1 S wk rn dn) : S.1 803 = nI wk := h.2.1
theorem B1.wkM {S : k_S} {wk rn dn : Nat} (h : B1 S wk rn dn) : S.1 2600 = nI wk := h.2.2.1
theorem B1.wk1 {S : k_S} {wk rn dn : Nat} (h : B1 S wk rn dn) : 1 ≤ wk := h.2.2.2.1
theorem B1.wk6 {S : k_S} {wk rn dn : Nat} (h : B1 S wk rn dn) : wk ≤ 6 := h.2.2.2.2.1
theorem B1.rnC {S : k_S} {wk rn dn : Nat} (h : B1 S wk rn dn) : S.1 1003 = nI rn := h.2.2.2.2.2.1
theorem B1.rnM {S : k_S} {wk rn dn : Nat} (h : B1 S wk rn dn) : S.1 2604 = nI rn := h.2.2.2.2.2.2.1
theorem B1.rn5 {S : k_S} {wk rn dn : Nat} (h : B1 S wk rn dn) : rn ≤ 5 := h.2.2.2.2.2.2.2.1
theorem B1.dnC {S : k_S} {wk rn dn : Nat} (h : B1 S wk rn dn) : S.1 1302 = nI dn := h.2.2.2.2.2.2.2.2.1
theorem B1.dnM {S : k_S} {wk rn dn : Nat} (h : B1 S wk rn dn) : S.1 2611 = nI dn := h.2.2.2.2.2.2.2.2.2.1
theorem B1.cnt {S : k_S} {wk rn dn : Nat} (h : B1 S wk rn dn) : CntOk (vC S) dn := h.2.2.2.2.2.2.2.2.2.2.1
theorem B1.pln {S : k_S} {wk rn dn : Nat} (h : B1 S wk rn dn) : PlanOk (vC S) := h.2.2.2.2.2.2.2.2.2.2.2.1
theorem B1.rst {S : k_S} {wk rn dn : Nat} (h : B1 S wk rn dn) : RstOk (vC S) := h.2.2.2.2.2.2.2.2.2.2.2.2.1
theorem B1.val {S : k_S} {wk rn dn : Nat} (h : B1 S wk rn dn) : ValOk (vC S) := h.2.2.2.2.2.2.2.2.2.2.2.2.2
def B2 (S : k_S) (tp : Nat) : Prop := S.2.1 12 = S.2.1 64 ∧ S.1 11 = nI tp ∧ S.1 2615 = nI tp ∧ tp ≤ 120
theorem B2.tape {S : k_S} {tp : Nat} (h : B2 S tp) : S.2.1 12 = S.2.1 64 := h.1
theorem B2.tpC {S : k_S} {tp : Nat} (h : B2 S tp) : S.1 11 = nI tp := h.2.1
theorem B2.tpM {S : k_S} {tp : Nat} (h : B2 S tp) : S.1 2615 = nI tp := h.2.2.1
theorem B2.tp120 {S : k_S} {tp : Nat} (h : B2 S tp) : tp ≤ 120 := h.2.2.2
def B3 (S : k_S) (T0 T1 T2 : List Int32) : Prop := TxOk S 1951 40 T0 ∧ TxOk S 2101 43 T1 ∧ TxOk S 2251 46 T2 ∧ TxM S 0 T0 ∧ TxM S 1 T1 ∧ TxM S 2 T2
theorem B3.c0 {S : k_S} {T0 T1 T2 : List Int32} (h : B3 S T0 T1 T2) : TxOk S 1951 40 T0 := h.1
theorem B3.c1 {S : k_S} {T0 T1 T2 : List Int32} (h : B3 S T0 T1 T2) : TxOk S 2101 43 T1 := h.2.1
theorem B3.c2 {S : k_S} {T0 T1 T2 : List Int32} (h : B3 S T0 T1 T2) : TxOk S 2251 46 T2 := h.2.2.1
theorem B3.m0 {S : k_S} {T0 T1 T2 : List Int32} (h : B3 S T0 T1 T2) : TxM S 0 T0 := h.2.2.2.1
theorem B3.m1 {S : k_S} {T0 T1 T2 : List Int32} (h : B3 S T0 T1 T2) : TxM S 1 T1 := h.2.2.2.2.1
theorem B3.m2 {S : k_S} {T0 T1 T2 : List Int32} (h : B3 S T0 T1 T2) : TxM S 2 T2 := h.2.2.2.2.2
def B4 (S : k_S) (lo : Nat) : Prop := S.1 1907 = nI lo ∧ S.1 2618 = nI lo ∧ 1 ≤ lo ∧ lo ≤ 60
theorem B4.loC {S : k_S} {lo : Nat} (h : B4 S lo) : S.1 1907 = nI lo := h.1
theorem B4.loM {S : k_S} {lo : Nat} (h : B4 S lo) : S.1 2618 = nI lo := h.2.1
theorem B4.lo1 {S : k_S} {lo : Nat} (h : B4 S lo) : 1 ≤ lo := h.2.2.1
theorem B4.lo60 {S : k_S} {lo : Nat} (h : B4 S lo) : lo ≤ 60 := h.2.2.2
def B5 (S : k_S) (tn : Nat) : Prop := TsOk S tn ∧ mTsOk S tn ∧ S.2.1 13 = S.2.1 67 ∧ S.2.1 14 = S.2.1 68 ∧ (∀ i, i < tn → -9999 ≤ (S.2.1 14 i).toInt ∧ (S.2.1 14 i).toInt ≤ 9999)
theorem B5.tsC {S : k_S} {tn : Nat} (h : B5 S tn) : TsOk S tn := h.1
theorem B5.tsM {S : k_S} {tn : Nat} (h : B5 S tn) : mTsOk S tn := h.2.1
theorem B5.dys {S : k_S} {tn : Nat} (h : B5 S tn) : S.2.1 13 = S.2.1 67 := h.2.2.1
theorem B5.fnd {S : k_S} {tn : Nat} (h : B5 S tn) : S.2.1 14 = S.2.1 68 := h.2.2.2.1
theorem B5.bnd {S : k_S} {tn : Nat} (h : B5 S tn) : ∀ i, i < tn → -9999 ≤ (S.2.1 14 i).toInt ∧ (S.2.1 14 i).toInt ≤ 9999 := h.2.2.2.2
/-- a change as both keep it -/
def chOk (S : k_S) (k : Nat) : Prop := (∃ p a b, p < 120 ∧ a < 6 ∧ b < 6 ∧ S.2.1 34 k = nI 0 ∧ S.2.1 35 k = nI p ∧ S.2.1 69 k = nI p ∧ S.2.1 36 k = nI a ∧ S.2.1 37 k = nI b) ∨ (∃ p a b, 1 ≤ p ∧ p < 6 ∧ a ≤ 99 ∧ b ≤ 99 ∧ S.2.1 34 k = nI 1 ∧ S.2.1 35 k = nI p ∧ S.2.1 69 k = nI (120 + p) ∧ S.2.1 36 k = nI a ∧ S.2.1 37 k = nI b) ∨ (∃ p a b, 1 ≤ p ∧ p < 6 ∧ a ≤ 99 ∧ b ≤ 99 ∧ S.2.1 34 k = nI 2 ∧ S.2.1 35 k = nI p ∧ S.2.1 69 k = nI (130 + p) ∧ S.2.1 36 k = nI a ∧ S.2.1 37 k = nI b)
def B6 (S : k_S) (nd nu : Nat) : Prop := S.1 1656 = nI nd ∧ S.1 1657 = nI nu ∧ S.1 2626 = nI nd ∧ S.1 2625 = nI (nd + nu) ∧ nd + nu ≤ 40 ∧ S.2.1 36 = S.2.1 70 ∧ S.2.1 37 = S.2.1 71 ∧ (∀ k, k < nd + nu → chOk S k)
theorem B6.ndC {S : k_S} {nd nu : Nat} (h : B6 S nd nu) : S.1 1656 = nI nd := h.1
theorem B6.nuC {S : k_S} {nd nu : Nat} (h : B6 S nd nu) : S.1 1657 = nI nu := h.2.1
theorem B6.ndM {S : k_S} {nd nu : Nat} (h : B6 S nd nu) : S.1 2626 = nI nd := h.2.2.1
theorem B6.chM {S : k_S} {nd nu : Nat} (h : B6 S nd nu) : S.1 2625 = nI (nd + nu) := h.2.2.2.1
theorem B6.n40 {S : k_S} {nd nu : Nat} (h : B6 S nd nu) : nd + nu ≤ 40 := h.2.2.2.2.1
theorem B6.was {S : k_S} {nd nu : Nat} (h : B6 S nd nu) : S.2.1 36 = S.2.1 70 := h.2.2.2.2.2.1
theorem B6.now {S : k_S} {nd nu : Nat} (h : B6 S nd nu) : S.2.1 37 = S.2.1 71 := h.2.2.2.2.2.2.1
theorem B6.chs {S : k_S} {nd nu : Nat} (h : B6 S nd nu) : ∀ k, k < nd + nu → chOk S k := h.2.2.2.2.2.2.2
def B7 (S : k_S) (kn ra : Nat) : Prop := KdOk S kn ∧ mKdOk S kn ∧ S.2.1 5 = S.2.1 72 ∧ S.1 203 = nI ra ∧ S.1 2629 = nI ra ∧ ra < 2 ^ 30 ∧ S.2.1 6 = S.2.1 73
theorem B7.kdC {S : k_S} {kn ra : Nat} (h : B7 S kn ra) : KdOk S kn := h.1
theorem B7.kdM {S : k_S} {kn ra : Nat} (h : B7 S kn ra) : mKdOk S kn := h.2.1
theorem B7.kds {S : k_S} {kn ra : Nat} (h : B7 S kn ra) : S.2.1 5 = S.2.1 72 := h.2.2.1
theorem B7.raC {S : k_S} {kn ra : Nat} (h : B7 S kn ra) : S.1 203 = nI ra := h.2.2.2.1
theorem B7.raM {S : k_S} {kn ra : Nat} (h : B7 S kn ra) : S.1 2629 = nI ra := h.2.2.2.2.1
theorem B7.ra30 {S : k_S} {kn ra : Nat} (h : B7 S kn ra) : ra < 2 ^ 30 := h.2.2.2.2.2.1
theorem B7.trc {S : k_S} {kn ra : Nat} (h : B7 S kn ra) : S.2.1 6 = S.2.1 73 := h.2.2.2.2.2.2
/-- a shelf as both keep it -/
def shR2 (S : k_S) (kn j : Nat) : Prop := (S.2.1 8 j = -2 ∧ S.2.1 74 j = -1) ∨ (∃ p, p < kn ∧ S.2.1 8 j = -1 ∧ S.2.1 9 j = nI p ∧ S.2.1 74 j = nI p) ∨ (∃ s l, s < 5 ∧ l ≤ 60 ∧ S.2.1 8 j = nI s ∧ S.2.1 9 j = nI l ∧ S.2.1 74 j = -2 ∧ S.2.1 75 j = nI s ∧ S.2.1 76 j = nI l ∧ ∀ i, i < 60 → S.2.2 10 (j * 60 + i) = S.2.2 77 (j * 60 + i) ∧ (s = 0 → lowb 0 (S.2.2 10 (j * 60 + i)) = S.2.2 10 (j * 60 + i)))
def B8 (S : k_S) (kn : Nat) : Prop := (∀ j, j < 6 → shR2 S kn j)
theorem B8.shs {S : k_S} {kn : Nat} (h : B8 S kn) : ∀ j, j < 6 → shR2 S kn j := h
def RR (S : k_S) (wk rn dn tp : Nat) (T0 T1 T2 : List Int32) (lo tn nd nu kn ra : Nat) : Prop := B1 S wk rn dn ∧ B2 S tp ∧ B3 S T0 T1 T2 ∧ B4 S lo ∧ B5 S tn ∧ B6 S nd nu ∧ B7 S kn ra ∧ B8 S kn
theorem RR.b1 {S : k_S} {wk rn dn tp : Nat} {T0 T1 T2 : List Int32} {lo tn nd nu kn ra : Nat} (h : RR S wk rn dn tp T0 T1 T2 lo tn nd nu kn ra) : B1 S wk rn dn := h.1
theorem RR.b2 {S : k_S} {wk rn dn tp : Nat} {T0 T1 T2 : List Int32} {lo tn nd nu kn ra : Nat} (h : RR S wk rn dn tp T0 T1 T2 lo tn nd nu kn ra) : B2 S tp := h.2.1
theorem RR.b3 {S : k_S} {wk rn dn tp : Nat} {T0 T1 T2 : List Int32} {lo tn nd nu kn ra : Nat} (h : RR S wk rn dn tp T0 T1 T2 lo tn nd nu kn ra) : B3 S T0 T1 T2 := h.2.2.1
theorem RR.b4 {S : k_S} {wk rn dn tp : Nat} {T0 T1 T2 : List Int32} {lo tn nd nu kn ra : Nat} (h : RR S wk rn dn tp T0 T1 T2 lo tn nd nu kn ra) : B4 S lo := h.2.2.2.1
theorem RR.b5 {S : k_S} {wk rn dn tp : Nat} {T0 T1 T2 : List Int32} {lo tn nd nu kn ra : Nat} (h : RR S wk rn dn tp T0 T1 T2 lo tn nd nu kn ra) : B5 S tn := h.2.2.2.2.1
theorem RR.b6 {S : k_S} {wk rn dn tp : Nat} {T0 T1 T2 : List Int32} {lo tn nd nu kn ra : Nat} (h : RR S wk rn dn tp T0 T1 T2 lo tn nd nu kn ra) : B6 S nd nu := h.2.2.2.2.2.1
theorem RR.b7 {S : k_S} {wk rn dn tp : Nat} {T0 T1 T2 : List Int32} {lo tn nd nu kn ra : Nat} (h : RR S wk rn dn tp T0 T1 T2 lo tn nd nu kn ra) : B7 S kn ra := h.2.2.2.2.2.2.1
theorem RR.b8 {S : k_S} {wk rn dn tp : Nat} {T0 T1 T2 : List Int32} {lo tn nd nu kn ra : Nat} (h : RR S wk rn dn tp T0 T1 T2 lo tn nd nu kn ra) : B8 S kn := h.2.2.2.2.2.2.2
def RRx (S : k_S) : Prop := ∃ wk rn dn tp T0 T1 T2 lo tn nd nu kn ra, RR S wk rn dn tp T0 T1 T2 lo tn nd nu kn ra
theorem vC_fr {I A J : List Nat} {S T : k_S} (f : Frm I A J S T) (hA : ∀ a ∈ [17, 18, 19, 21, 22, 23, 25, 27, 28], a ∉ A) : vC T = vC S := f.V hA
theorem B1.fr {I A J : List Nat} {S T : k_S} {wk rn dn : Nat} (h : B1 S wk rn dn) (f : Frm I A J S T) (hI : ∀ k ∈ [803, 2600, 1003, 2604, 1302, 2611], k ∉ I) (hA : ∀ a ∈ [17, 18, 19, 21, 22, 23, 25, 27, 28], a ∉ A) (hB : ∀ a ∈ [53, 54, 55, 58, 59, 60, 61, 62, 63], a ∉ A) : B1 T wk rn dn := by
  have e := f.V hA
  have e2 := f.M hB
  exact ⟨by rw [e, e2]; exact h.hV, (f.1 _ (hI _ (by decide))).trans h.wkC, (f.1 _ (hI _ (by decide))).trans h.wkM, h.wk1, h.wk6, (f.1 _ (hI _ (by decide))).trans h.rnC, (f.1 _ (hI _ (by decide))).trans h.rnM, h.rn5, (f.1 _ (hI _ (by decide))).trans h.dnC, (f.1 _ (hI _ (by decide))).trans h.dnM, by rw [e]; exact h.cnt, by rw [e]; exact h.pln, by rw [e]; exact h.rst, by rw [e]; exact h.val⟩
theorem B2.fr {I A J : List Nat} {S T : k_S} {tp : Nat} (h : B2 S tp) (f : Frm I A J S T) (hI : ∀ k ∈ [11, 2615], k ∉ I) (hA : ∀ a ∈ [12, 64], a ∉ A) : B2 T tp :=
  ⟨by rw [f.2.1 12 (hA _ (by decide)), f.2.1 64 (hA _ (by decide))]; exact h.tape, (f.1 _ (hI _ (by decide))).trans h.tpC, (f.1 _ (hI _ (by decide))).trans h.tpM, h.tp120⟩
theorem B3.fr {I A J : List Nat} {S T : k_S} {T0 T1 T2 : List Int32} (h : B3 S T0 T1 T2) (f : Frm I A J S T) (hI : ∀ k ∈ [1951, 2101, 2251], k ∉ I) (hA : ∀ a ∈ [40, 43, 46, 65, 66], a ∉ A) : B3 T T0 T1 T2 :=
  ⟨h.c0.fr f (hI _ (by decide)) (hA _ (by decide)), h.c1.fr f (hI _ (by decide)) (hA _ (by decide)), h.c2.fr f (hI _ (by decide)) (hA _ (by decide)), h.m0.fr f (hA _ (by decide)) (hA _ (by decide)), h.m1.fr f (hA _ (by decide)) (hA _ (by decide)), h.m2.fr f (hA _ (by decide)) (hA _ (by decide))⟩
theorem B4.fr {I A J : List Nat} {S T : k_S} {lo : Nat} (h : B4 S lo) (f : Frm I A J S T) (hI : ∀ k ∈ [1907, 2618], k ∉ I) : B4 T lo :=
  ⟨(f.1 _ (hI _ (by decide))).trans h.loC, (f.1 _ (hI _ (by decide))).trans h.loM, h.lo1, h.lo60⟩
theorem B5.fr {I A J : List Nat} {S T : k_S} {tn : Nat} (h : B5 S tn) (f : Frm I A J S T) (hI : ∀ k ∈ [14, 2619], k ∉ I) (hA : ∀ a ∈ [13, 14, 67, 68], a ∉ A) : B5 T tn := by
  have e1 := f.2.1 13 (hA _ (by decide)); have e2 := f.2.1 14 (hA _ (by decide)); have e3 := f.2.1 67 (hA _ (by decide)); have e4 := f.2.1 68 (hA _ (by decide))
  exact ⟨⟨(f.1 _ (hI _ (by decide))).trans h.tsC.1, h.tsC.2.1, by rw [e1]; exact h.tsC.2.2⟩, ⟨(f.1 _ (hI _ (by decide))).trans h.tsM.1, h.tsM.2.1, by rw [e3]; exact h.tsM.2.2⟩, by rw [e1, e3]; exact h.dys, by rw [e2, e4]; exact h.fnd, by rw [e2]; exact h.bnd⟩
theorem B6.fr {I A J : List Nat} {S T : k_S} {nd nu : Nat} (h : B6 S nd nu) (f : Frm I A J S T) (hI : ∀ k ∈ [1656, 1657, 2626, 2625], k ∉ I) (hA : ∀ a ∈ [34, 35, 36, 37, 69, 70, 71], a ∉ A) : B6 T nd nu := by
  have e1 := f.2.1 34 (hA _ (by decide)); have e2 := f.2.1 35 (hA _ (by decide)); have e3 := f.2.1 36 (hA _ (by decide)); have e4 := f.2.1 37 (hA _ (by decide)); have e5 := f.2.1 69 (hA _ (by decide)); have e6 := f.2.1 70 (hA _ (by decide)); have e7 := f.2.1 71 (hA _ (by decide))
  exact ⟨(f.1 _ (hI _ (by decide))).trans h.ndC, (f.1 _ (hI _ (by decide))).trans h.nuC, (f.1 _ (hI _ (by decide))).trans h.ndM, (f.1 _ (hI _ (by decide))).trans h.chM, h.n40, by rw [e3, e6]; exact h.was, by rw [e4, e7]; exact h.now, fun k hk => by unfold chOk; rw [e1, e2, e3, e4, e5]; exact h.chs k hk⟩
theorem B7.fr {I A J : List Nat} {S T : k_S} {kn ra : Nat} (h : B7 S kn ra) (f : Frm I A J S T) (hI : ∀ k ∈ [201, 2627, 203, 2629], k ∉ I) (hA : ∀ a ∈ [5, 72, 6, 73], a ∉ A) : B7 T kn ra := by
  have e1 := f.2.1 5 (hA _ (by decide)); have e2 := f.2.1 72 (hA _ (by decide)); have e3 := f.2.1 6 (hA _ (by decide)); have e4 := f.2.1 73 (hA _ (by decide))
  exact ⟨⟨(f.1 _ (hI _ (by decide))).trans h.kdC.1, h.kdC.2.1, by rw [e1]; exact h.kdC.2.2⟩, ⟨(f.1 _ (hI _ (by decide))).trans h.kdM.1, h.kdM.2.1, by rw [e2]; exact h.kdM.2.2⟩, by rw [e1, e2]; exact h.kds, (f.1 _ (hI _ (by decide))).trans h.raC, (f.1 _ (hI _ (by decide))).trans h.raM, h.ra30, by rw [e3, e4]; exact h.trc⟩
theorem B8.fr {I A J : List Nat} {S T : k_S} {kn : Nat} (h : B8 S kn) (f : Frm I A J S T) (hA : ∀ a ∈ [8, 9, 74, 75, 76], a ∉ A) (hJ : ∀ a ∈ [10, 77], a ∉ J) : B8 T kn := by
  have e1 := f.2.1 8 (hA _ (by decide)); have e2 := f.2.1 9 (hA _ (by decide)); have e3 := f.2.1 74 (hA _ (by decide)); have e4 := f.2.1 75 (hA _ (by decide)); have e5 := f.2.1 76 (hA _ (by decide)); have e6 := f.2.2 10 (hJ _ (by decide)); have e7 := f.2.2 77 (hJ _ (by decide))
  exact fun j hj => by unfold shR2; rw [e1, e2, e3, e4, e5, e6, e7]; exact h.shs j hj
/-- what no call shows -/
def scI : List Nat := [51, 52, 53, 54, 55, 56, 57, 204, 205, 1953, 2103, 2253, 2638, 2639, 2640, 2641, 2647]
def scA : List Nat := [2, 3, 15, 30, 31, 32, 41, 44, 47, 48, 49, 50, 51, 56, 57, 78, 79, 80, 81, 82, 83, 85]
def scJ : List Nat := [11, 84, 86]
theorem RR.fr {S T : k_S} {wk rn dn tp : Nat} {T0 T1 T2 : List Int32} {lo tn nd nu kn ra : Nat} (h : RR S wk rn dn tp T0 T1 T2 lo tn nd nu kn ra) (f : Frm scI scA scJ S T) : RR T wk rn dn tp T0 T1 T2 lo tn nd nu kn ra :=
  ⟨h.b1.fr f (by decide) (by decide) (by decide), h.b2.fr f (by decide) (by decide), h.b3.fr f (by decide) (by decide), h.b4.fr f (by decide), h.b5.fr f (by decide) (by decide), h.b6.fr f (by decide) (by decide), h.b7.fr f (by decide) (by decide), h.b8.fr f (by decide) (by decide)⟩
theorem RRx.fr {S T : k_S} (h : RRx S) (f : Frm scI scA scJ S T) : RRx T := by
  obtain ⟨wk, rn, dn, tp, T0, T1, T2, lo, tn, nd, nu, kn, ra, h⟩ := h
  exact ⟨wk, rn, dn, tp, T0, T1, T2, lo, tn, nd, nu, kn, ra, h.fr f⟩
/-- an answer of the kind that is told -/
def vOk : Option FieldType → Value → Prop
  | some .int, .int _ => True
  | some .long, .long _ => True
  | _, _ => False
/-- one call of both: the same answer, and what held holds behind it -/
def Both (Mc Mm : k_M) (args : List Value) (S : k_S) : Prop := ∃ (dc dm : Nat) (Q : Value → k_S → Prop), dc ≤ 90 ∧ dm ≤ 90 ∧ Sp dc 0 0 Mc (.ref 0 :: args) (hp S) (fun r h' => ∃ v S1, r = some v ∧ h' = hp S1 ∧ vOk Mc.2.2.2 v ∧ Q v S1) ∧ ∀ v S1, Q v S1 → Sp dm 0 0 Mm (.ref 52 :: args) (hp S1) (fun r h' => ∃ S2, r = some v ∧ h' = hp S2 ∧ RRx S2)
/-- both leave the state, or scratch alone -/
theorem both_x {Mc Mm : k_M} {args : List Value} {S : k_S} {dc dm : Nat} {v : Value} (h : RRx S) (hdc : dc ≤ 90) (hdm : dm ≤ 90) (hc : Sp dc 0 0 Mc (.ref 0 :: args) (hp S) (Rx (some v) (Frm scI scA scJ S))) (hm : ∀ S1, Frm scI scA scJ S S1 → Sp dm 0 0 Mm (.ref 52 :: args) (hp S1) (Rx (some v) (Frm scI scA scJ S1))) (hv : vOk Mc.2.2.2 v := by exact True.intro) : Both Mc Mm args S := by
  refine ⟨dc, dm, fun v2 S1 => v2 = v ∧ Frm scI scA scJ S S1, hdc, hdm, hc.mono ?_, ?_⟩
  · rintro r h' ⟨rfl, S1, rfl, f⟩
    exact ⟨v, S1, rfl, rfl, hv, rfl, f⟩
  · rintro v2 S1 ⟨rfl, f⟩
    refine (hm S1 f).mono ?_
    rintro r h' ⟨rfl, S2, rfl, f2⟩
    exact ⟨S2, rfl, rfl, h.fr (f.tr f2)⟩
theorem Rt.x {S : k_S} {v : Value} {d bc bs : Nat} {M : k_M} {av : List Value} (h : Sp d bc bs M av (hp S) (Rt (some v) (hp S))) : Sp d bc bs M av (hp S) (Rx (some v) (Frm scI scA scJ S)) := h.mono (fun r h' q => ⟨q.1, S, q.2, Frm.rf S⟩)
theorem Rx.x {S : k_S} {v : Value} {d bc bs : Nat} {M : k_M} {av : List Value} {I A J : List Nat} (h : Sp d bc bs M av (hp S) (Rx (some v) (Frm I A J S))) (h1 : ∀ k ∈ I, k ∈ scI) (h2 : ∀ k ∈ A, k ∈ scA) (h3 : ∀ k ∈ J, k ∈ scJ) : Sp d bc bs M av (hp S) (Rx (some v) (Frm scI scA scJ S)) := h.mono (fun r h' q => ⟨q.1, q.2.choose, q.2.choose_spec.1, q.2.choose_spec.2.wk h1 h2 h3⟩)
theorem both_t {Mc Mm : k_M} {args : List Value} {S S1 S2 : k_S} {dc dm : Nat} {v : Value} (hdc : dc ≤ 90) (hdm : dm ≤ 90) (hc : Sp dc 0 0 Mc (.ref 0 :: args) (hp S) (Rt (some v) (hp S1))) (hm : Sp dm 0 0 Mm (.ref 52 :: args) (hp S1) (Rt (some v) (hp S2))) (h : RRx S2) (hv : vOk Mc.2.2.2 v := by exact True.intro) : Both Mc Mm args S := by
  refine ⟨dc, dm, fun v2 T => v2 = v ∧ T = S1, hdc, hdm, hc.mono ?_, ?_⟩
  · rintro r h' ⟨rfl, rfl⟩
    exact ⟨v, S1, rfl, rfl, hv, rfl, rfl⟩
  · rintro v2 T ⟨rfl, rfl⟩
    refine hm.mono ?_
    rintro r h' ⟨rfl, rfl⟩
    exact ⟨S2, rfl, rfl, h⟩
