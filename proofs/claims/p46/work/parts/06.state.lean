/-! THE STATE: all ints of all fields (field j of the object in place a: 50 a + j), all rows of ints, all rows of longs (by place). Places 0 .. 51. -/
abbrev k_S : Type := (Nat → Int32) × (Nat → Nat → Int32) × (Nat → Nat → Int64)
def si (S : k_S) (k : Nat) (v : Int32) : k_S := (va_up S.1 k v, S.2)
def sa (S : k_S) (a : Nat) (f : Nat → Int32) : k_S := (S.1, va_up S.2.1 a f, S.2.2)
def sj (S : k_S) (a : Nat) (f : Nat → Int64) : k_S := (S.1, S.2.1, va_up S.2.2 a f)
def hp (S : k_S) : k_H := [.inr (13, [.ref 16, .ref 20, .ref 24, .ref 26, .ref 33, .ref 29, .ref 38, .ref 1, .ref 4, .ref 7, .ref 12, .int (S.1 11), .ref 13, .ref 14, .int (S.1 14), .ref 15]),
  .inr (8, [.ref 2, .int (S.1 51), .ref 3, .int (S.1 53), .int (S.1 54), .int (S.1 55), .int (S.1 56), .int (S.1 57)]),
  .inl (240, .inl (S.2.1 2)),
  .inl (120, .inl (S.2.1 3)),
  .inr (2, [.ref 5, .int (S.1 201), .ref 6, .int (S.1 203), .int (S.1 204), .int (S.1 205)]),
  .inl (50, .inl (S.2.1 5)),
  .inl (24, .inl (S.2.1 6)),
  .inr (9, [.ref 8, .ref 9, .ref 10, .ref 11]),
  .inl (6, .inl (S.2.1 8)),
  .inl (6, .inl (S.2.1 9)),
  .inl (360, .inr (.inl (S.2.2 10))),
  .inl (60, .inr (.inl (S.2.2 11))),
  .inl (120, .inl (S.2.1 12)),
  .inl (10, .inl (S.2.1 13)),
  .inl (10, .inl (S.2.1 14)),
  .inl (5, .inl (S.2.1 15)),
  .inr (12, [.ref 17, .ref 18, .ref 19, .int (S.1 803)]),
  .inl (6, .inl (S.2.1 17)),
  .inl (6, .inl (S.2.1 18)),
  .inl (6, .inl (S.2.1 19)),
  .inr (10, [.ref 21, .ref 22, .ref 23, .int (S.1 1003)]),
  .inl (5, .inl (S.2.1 21)),
  .inl (600, .inl (S.2.1 22)),
  .inl (600, .inl (S.2.1 23)),
  .inr (4, [.ref 25]),
  .inl (120, .inl (S.2.1 25)),
  .inr (7, [.ref 27, .ref 28, .int (S.1 1302)]),
  .inl (4, .inl (S.2.1 27)),
  .inl (4, .inl (S.2.1 28)),
  .inr (5, [.ref 16, .ref 20, .ref 24, .ref 26, .ref 30, .ref 31, .ref 32]),
  .inl (120, .inl (S.2.1 30)),
  .inl (120, .inl (S.2.1 31)),
  .inl (120, .inl (S.2.1 32)),
  .inr (3, [.ref 16, .ref 24, .ref 34, .ref 35, .ref 36, .ref 37, .int (S.1 1656), .int (S.1 1657)]),
  .inl (40, .inl (S.2.1 34)),
  .inl (40, .inl (S.2.1 35)),
  .inl (40, .inl (S.2.1 36)),
  .inl (40, .inl (S.2.1 37)),
  .inr (6, [.ref 29, .ref 16, .ref 24, .ref 26, .ref 39, .ref 42, .ref 45, .int (S.1 1907), .ref 48, .ref 49, .ref 50, .ref 51]),
  .inr (11, [.ref 40, .int (S.1 1951), .ref 41, .int (S.1 1953)]),
  .inl (240, .inl (S.2.1 40)),
  .inl (120, .inl (S.2.1 41)),
  .inr (11, [.ref 43, .int (S.1 2101), .ref 44, .int (S.1 2103)]),
  .inl (240, .inl (S.2.1 43)),
  .inl (120, .inl (S.2.1 44)),
  .inr (11, [.ref 46, .int (S.1 2251), .ref 47, .int (S.1 2253)]),
  .inl (240, .inl (S.2.1 46)),
  .inl (120, .inl (S.2.1 47)),
  .inl (7, .inl (S.2.1 48)),
  .inl (120, .inl (S.2.1 49)),
  .inl (121, .inl (S.2.1 50)),
  .inl (120, .inl (S.2.1 51))]
/-- a contract with one answer and one state behind it -/
abbrev Rt (v : Option Value) (h2 : k_H) : Option Value → k_H → Prop := fun r h' => r = v ∧ h' = h2
/-- an answer, and a state behind it of which Q holds -/
abbrev Rx (v : Option Value) (Q : k_S → Prop) : Option Value → k_H → Prop := fun r h' => r = v ∧ ∃ S', h' = hp S' ∧ Q S'
section KX
variable {X : k_X} {M M' : k_M} {d d' bc bs pc n na ix : Nat} {L st As rest : List Value} {S : k_S} {h h2 : k_H} {Po : Option Value → k_H → Prop} {v : Value}
theorem cV1 {a : Nat} (hd : k_dc M pc (.invokevirtual ix) 3 n) (hl : Cond.methodLink M.1.cls ix M'.1 ∈ k_tG) (hw : k_mw M' na) (hw2 : Cond.instanceMethod M'.1 ∈ k_tG ∧ Cond.selects M'.1.cls M'.1 M'.1 ∈ k_tG) (hrc : ∃ (ci : Nat) (fs : List Value) (q : vw_C), h[a]? = some (.inr (ci, fs)) ∧ vwCl[ci]? = some q ∧ q.1 = M'.1.cls) (hp : k_popn (na + 1) st [] = some (.ref a :: As, rest)) (hsp : Sp d' 0 0 M' (.ref a :: As) h (Rt (some v) h2)) (hdd : d' < d) (hct : (rest.map fun v => v.category).sum ≤ 8) (k : AW X M d bc bs n L (v :: rest) h2 Po) : AW X M d bc bs pc L st h Po := by
  obtain ⟨ci, fs, q, hq1, hq2, hq3⟩ := hrc
  refine k_callV hd hl hw hw2 ⟨hq1, q, hq2, hq3⟩ hp hsp hdd ⟨(Nat.zero_add _).symm, (Nat.zero_add _).symm⟩ hct ?_
  rintro r h' ⟨rfl, rfl⟩
  exact k
theorem cV0 {a : Nat} (hd : k_dc M pc (.invokevirtual ix) 3 n) (hl : Cond.methodLink M.1.cls ix M'.1 ∈ k_tG) (hw : k_mw M' na) (hw2 : Cond.instanceMethod M'.1 ∈ k_tG ∧ Cond.selects M'.1.cls M'.1 M'.1 ∈ k_tG) (hrc : ∃ (ci : Nat) (fs : List Value) (q : vw_C), h[a]? = some (.inr (ci, fs)) ∧ vwCl[ci]? = some q ∧ q.1 = M'.1.cls) (hp : k_popn (na + 1) st [] = some (.ref a :: As, rest)) (hsp : Sp d' 0 0 M' (.ref a :: As) h (Rt (none) h2)) (hdd : d' < d) (hct : (rest.map fun v => v.category).sum ≤ 8) (k : AW X M d bc bs n L (rest) h2 Po) : AW X M d bc bs pc L st h Po := by
  obtain ⟨ci, fs, q, hq1, hq2, hq3⟩ := hrc
  refine k_callV hd hl hw hw2 ⟨hq1, q, hq2, hq3⟩ hp hsp hdd ⟨(Nat.zero_add _).symm, (Nat.zero_add _).symm⟩ hct ?_
  rintro r h' ⟨rfl, rfl⟩
  exact k
theorem cS1 (hd : k_dc M pc (.invokestatic ix) 3 n) (hl : Cond.methodLink M.1.cls ix M'.1 ∈ k_tG) (hw : k_mw M' na) (hw2 : Cond.static M'.1 ∈ k_tG) (hp : k_popn na st [] = some (As, rest)) (hsp : Sp d' 0 0 M' (As) h (Rt (some v) h2)) (hdd : d' < d) (hct : (rest.map fun v => v.category).sum ≤ 8) (k : AW X M d bc bs n L (v :: rest) h2 Po) : AW X M d bc bs pc L st h Po := by
  skip
  refine k_callS hd hl hw hw2 hp hsp hdd ⟨(Nat.zero_add _).symm, (Nat.zero_add _).symm⟩ hct ?_
  rintro r h' ⟨rfl, rfl⟩
  exact k
theorem cS0 (hd : k_dc M pc (.invokestatic ix) 3 n) (hl : Cond.methodLink M.1.cls ix M'.1 ∈ k_tG) (hw : k_mw M' na) (hw2 : Cond.static M'.1 ∈ k_tG) (hp : k_popn na st [] = some (As, rest)) (hsp : Sp d' 0 0 M' (As) h (Rt (none) h2)) (hdd : d' < d) (hct : (rest.map fun v => v.category).sum ≤ 8) (k : AW X M d bc bs n L (rest) h2 Po) : AW X M d bc bs pc L st h Po := by
  skip
  refine k_callS hd hl hw hw2 hp hsp hdd ⟨(Nat.zero_add _).symm, (Nat.zero_add _).symm⟩ hct ?_
  rintro r h' ⟨rfl, rfl⟩
  exact k
theorem cN1 {hst : String} (hd : k_dc M pc (.invokestatic ix) 3 n) (hl : Cond.methodLinkNest M.1.cls ix M'.1 hst ∈ k_tN) (hw : k_mw M' na) (hw2 : Cond.static M'.1 ∈ k_tG) (hp : k_popn na st [] = some (As, rest)) (hsp : Sp d' 0 0 M' (As) h (Rt (some v) h2)) (hdd : d' < d) (hct : (rest.map fun v => v.category).sum ≤ 8) (k : AW X M d bc bs n L (v :: rest) h2 Po) : AW X M d bc bs pc L st h Po := by
  skip
  refine k_callSN hd hl hw hw2 hp hsp hdd ⟨(Nat.zero_add _).symm, (Nat.zero_add _).symm⟩ hct ?_
  rintro r h' ⟨rfl, rfl⟩
  exact k
theorem cN0 {hst : String} (hd : k_dc M pc (.invokestatic ix) 3 n) (hl : Cond.methodLinkNest M.1.cls ix M'.1 hst ∈ k_tN) (hw : k_mw M' na) (hw2 : Cond.static M'.1 ∈ k_tG) (hp : k_popn na st [] = some (As, rest)) (hsp : Sp d' 0 0 M' (As) h (Rt (none) h2)) (hdd : d' < d) (hct : (rest.map fun v => v.category).sum ≤ 8) (k : AW X M d bc bs n L (rest) h2 Po) : AW X M d bc bs pc L st h Po := by
  skip
  refine k_callSN hd hl hw hw2 hp hsp hdd ⟨(Nat.zero_add _).symm, (Nat.zero_add _).symm⟩ hct ?_
  rintro r h' ⟨rfl, rfl⟩
  exact k
theorem GX6_9 (hd : k_dc M pc (.getfield 9) 3 n) (hM : M.1.cls = RX6) (k : AW X M d bc bs n L (.ref 2 :: st) (hp S) Po) : AW X M d bc bs pc L (.ref 1 :: st) (hp S) Po := k_get hd clX6 (j := 0) (by rw [hM]; exact fX6_9) rfl rfl k
theorem GX9_25 (hd : k_dc M pc (.getfield 25) 3 n) (hM : M.1.cls = RX9) (k : AW X M d bc bs n L (.ref 2 :: st) (hp S) Po) : AW X M d bc bs pc L (.ref 1 :: st) (hp S) Po := k_getN hd clX6 (j := 0) (by rw [hM]; exact fX9_25) rfl rfl k
theorem GX6_18 (hd : k_dc M pc (.getfield 18) 3 n) (hM : M.1.cls = RX6) (k : AW X M d bc bs n L (.int (S.1 51) :: st) (hp S) Po) : AW X M d bc bs pc L (.ref 1 :: st) (hp S) Po := k_get hd clX6 (j := 1) (by rw [hM]; exact fX6_18) rfl rfl k
theorem PX6_18 {z : Int32} (hd : k_dc M pc (.putfield 18) 3 n) (hM : M.1.cls = RX6) (k : AW X M d bc bs n L st (hp (si S 51 z)) Po) : AW X M d bc bs pc L (.int z :: .ref 1 :: st) (hp S) Po := k_put hd clX6 (j := 1) (by rw [hM]; exact fX6_18) rfl rfl (Nat.le_of_ble_eq_true rfl) (fun _ => ⟨rfl, rfl⟩) rfl k
theorem GX9_22 (hd : k_dc M pc (.getfield 22) 3 n) (hM : M.1.cls = RX9) (k : AW X M d bc bs n L (.int (S.1 51) :: st) (hp S) Po) : AW X M d bc bs pc L (.ref 1 :: st) (hp S) Po := k_getN hd clX6 (j := 1) (by rw [hM]; exact fX9_22) rfl rfl k
theorem GX6_15 (hd : k_dc M pc (.getfield 15) 3 n) (hM : M.1.cls = RX6) (k : AW X M d bc bs n L (.ref 3 :: st) (hp S) Po) : AW X M d bc bs pc L (.ref 1 :: st) (hp S) Po := k_get hd clX6 (j := 2) (by rw [hM]; exact fX6_15) rfl rfl k
theorem GX6_22 (hd : k_dc M pc (.getfield 22) 3 n) (hM : M.1.cls = RX6) (k : AW X M d bc bs n L (.int (S.1 53) :: st) (hp S) Po) : AW X M d bc bs pc L (.ref 1 :: st) (hp S) Po := k_get hd clX6 (j := 3) (by rw [hM]; exact fX6_22) rfl rfl k
theorem PX6_22 {z : Int32} (hd : k_dc M pc (.putfield 22) 3 n) (hM : M.1.cls = RX6) (k : AW X M d bc bs n L st (hp (si S 53 z)) Po) : AW X M d bc bs pc L (.int z :: .ref 1 :: st) (hp S) Po := k_put hd clX6 (j := 3) (by rw [hM]; exact fX6_22) rfl rfl (Nat.le_of_ble_eq_true rfl) (fun _ => ⟨rfl, rfl⟩) rfl k
theorem GX6_25 (hd : k_dc M pc (.getfield 25) 3 n) (hM : M.1.cls = RX6) (k : AW X M d bc bs n L (.int (S.1 54) :: st) (hp S) Po) : AW X M d bc bs pc L (.ref 1 :: st) (hp S) Po := k_get hd clX6 (j := 4) (by rw [hM]; exact fX6_25) rfl rfl k
theorem PX6_25 {z : Int32} (hd : k_dc M pc (.putfield 25) 3 n) (hM : M.1.cls = RX6) (k : AW X M d bc bs n L st (hp (si S 54 z)) Po) : AW X M d bc bs pc L (.int z :: .ref 1 :: st) (hp S) Po := k_put hd clX6 (j := 4) (by rw [hM]; exact fX6_25) rfl rfl (Nat.le_of_ble_eq_true rfl) (fun _ => ⟨rfl, rfl⟩) rfl k
theorem GX6_28 (hd : k_dc M pc (.getfield 28) 3 n) (hM : M.1.cls = RX6) (k : AW X M d bc bs n L (.int (S.1 55) :: st) (hp S) Po) : AW X M d bc bs pc L (.ref 1 :: st) (hp S) Po := k_get hd clX6 (j := 5) (by rw [hM]; exact fX6_28) rfl rfl k
theorem PX6_28 {z : Int32} (hd : k_dc M pc (.putfield 28) 3 n) (hM : M.1.cls = RX6) (k : AW X M d bc bs n L st (hp (si S 55 z)) Po) : AW X M d bc bs pc L (.int z :: .ref 1 :: st) (hp S) Po := k_put hd clX6 (j := 5) (by rw [hM]; exact fX6_28) rfl rfl (Nat.le_of_ble_eq_true rfl) (fun _ => ⟨rfl, rfl⟩) rfl k
theorem GX6_31 (hd : k_dc M pc (.getfield 31) 3 n) (hM : M.1.cls = RX6) (k : AW X M d bc bs n L (.int (S.1 56) :: st) (hp S) Po) : AW X M d bc bs pc L (.ref 1 :: st) (hp S) Po := k_get hd clX6 (j := 6) (by rw [hM]; exact fX6_31) rfl rfl k
theorem PX6_31 {z : Int32} (hd : k_dc M pc (.putfield 31) 3 n) (hM : M.1.cls = RX6) (hz : z = 0 ∨ z = 1) (k : AW X M d bc bs n L st (hp (si S 56 z)) Po) : AW X M d bc bs pc L (.int z :: .ref 1 :: st) (hp S) Po := k_put hd clX6 (j := 6) (by rw [hM]; exact fX6_31) rfl rfl (Nat.le_of_ble_eq_true rfl) (fun _ => by rcases hz with rfl | rfl <;> exact ⟨rfl, rfl⟩) rfl k
theorem GX6_35 (hd : k_dc M pc (.getfield 35) 3 n) (hM : M.1.cls = RX6) (k : AW X M d bc bs n L (.int (S.1 57) :: st) (hp S) Po) : AW X M d bc bs pc L (.ref 1 :: st) (hp S) Po := k_get hd clX6 (j := 7) (by rw [hM]; exact fX6_35) rfl rfl k
theorem PX6_35 {z : Int32} (hd : k_dc M pc (.putfield 35) 3 n) (hM : M.1.cls = RX6) (hz : z = 0 ∨ z = 1) (k : AW X M d bc bs n L st (hp (si S 57 z)) Po) : AW X M d bc bs pc L (.int z :: .ref 1 :: st) (hp S) Po := k_put hd clX6 (j := 7) (by rw [hM]; exact fX6_35) rfl rfl (Nat.le_of_ble_eq_true rfl) (fun _ => by rcases hz with rfl | rfl <;> exact ⟨rfl, rfl⟩) rfl k
theorem GX0_11 (hd : k_dc M pc (.getfield 11) 3 n) (hM : M.1.cls = RX0) (k : AW X M d bc bs n L (.ref 5 :: st) (hp S) Po) : AW X M d bc bs pc L (.ref 4 :: st) (hp S) Po := k_get hd clX0 (j := 0) (by rw [hM]; exact fX0_11) rfl rfl k
theorem GX0_15 (hd : k_dc M pc (.getfield 15) 3 n) (hM : M.1.cls = RX0) (k : AW X M d bc bs n L (.int (S.1 201) :: st) (hp S) Po) : AW X M d bc bs pc L (.ref 4 :: st) (hp S) Po := k_get hd clX0 (j := 1) (by rw [hM]; exact fX0_15) rfl rfl k
theorem GX11_330 (hd : k_dc M pc (.getfield 330) 3 n) (hM : M.1.cls = RX11) (k : AW X M d bc bs n L (.int (S.1 201) :: st) (hp S) Po) : AW X M d bc bs pc L (.ref 4 :: st) (hp S) Po := k_get hd clX0 (j := 1) (by rw [hM]; exact fX11_330) rfl rfl k
theorem GX0_19 (hd : k_dc M pc (.getfield 19) 3 n) (hM : M.1.cls = RX0) (k : AW X M d bc bs n L (.ref 6 :: st) (hp S) Po) : AW X M d bc bs pc L (.ref 4 :: st) (hp S) Po := k_get hd clX0 (j := 2) (by rw [hM]; exact fX0_19) rfl rfl k
theorem GX0_22 (hd : k_dc M pc (.getfield 22) 3 n) (hM : M.1.cls = RX0) (k : AW X M d bc bs n L (.int (S.1 203) :: st) (hp S) Po) : AW X M d bc bs pc L (.ref 4 :: st) (hp S) Po := k_get hd clX0 (j := 3) (by rw [hM]; exact fX0_22) rfl rfl k
theorem GX11_331 (hd : k_dc M pc (.getfield 331) 3 n) (hM : M.1.cls = RX11) (k : AW X M d bc bs n L (.int (S.1 203) :: st) (hp S) Po) : AW X M d bc bs pc L (.ref 4 :: st) (hp S) Po := k_get hd clX0 (j := 3) (by rw [hM]; exact fX11_331) rfl rfl k
theorem GX7_11 (hd : k_dc M pc (.getfield 11) 3 n) (hM : M.1.cls = RX7) (k : AW X M d bc bs n L (.ref 8 :: st) (hp S) Po) : AW X M d bc bs pc L (.ref 7 :: st) (hp S) Po := k_get hd clX7 (j := 0) (by rw [hM]; exact fX7_11) rfl rfl k
theorem GX7_15 (hd : k_dc M pc (.getfield 15) 3 n) (hM : M.1.cls = RX7) (k : AW X M d bc bs n L (.ref 9 :: st) (hp S) Po) : AW X M d bc bs pc L (.ref 7 :: st) (hp S) Po := k_get hd clX7 (j := 1) (by rw [hM]; exact fX7_15) rfl rfl k
theorem GX7_18 (hd : k_dc M pc (.getfield 18) 3 n) (hM : M.1.cls = RX7) (k : AW X M d bc bs n L (.ref 10 :: st) (hp S) Po) : AW X M d bc bs pc L (.ref 7 :: st) (hp S) Po := k_get hd clX7 (j := 2) (by rw [hM]; exact fX7_18) rfl rfl k
theorem GX7_22 (hd : k_dc M pc (.getfield 22) 3 n) (hM : M.1.cls = RX7) (k : AW X M d bc bs n L (.ref 11 :: st) (hp S) Po) : AW X M d bc bs pc L (.ref 7 :: st) (hp S) Po := k_get hd clX7 (j := 3) (by rw [hM]; exact fX7_22) rfl rfl k
theorem GX10_9 (hd : k_dc M pc (.getfield 9) 3 n) (hM : M.1.cls = RX10) (k : AW X M d bc bs n L (.ref 17 :: st) (hp S) Po) : AW X M d bc bs pc L (.ref 16 :: st) (hp S) Po := k_get hd clX10 (j := 0) (by rw [hM]; exact fX10_9) rfl rfl k
theorem GX3_61 (hd : k_dc M pc (.getfield 61) 3 n) (hM : M.1.cls = RX3) (k : AW X M d bc bs n L (.ref 17 :: st) (hp S) Po) : AW X M d bc bs pc L (.ref 16 :: st) (hp S) Po := k_get hd clX10 (j := 0) (by rw [hM]; exact fX3_61) rfl rfl k
theorem GX1_64 (hd : k_dc M pc (.getfield 64) 3 n) (hM : M.1.cls = RX1) (k : AW X M d bc bs n L (.ref 17 :: st) (hp S) Po) : AW X M d bc bs pc L (.ref 16 :: st) (hp S) Po := k_get hd clX10 (j := 0) (by rw [hM]; exact fX1_64) rfl rfl k
theorem GX10_15 (hd : k_dc M pc (.getfield 15) 3 n) (hM : M.1.cls = RX10) (k : AW X M d bc bs n L (.ref 18 :: st) (hp S) Po) : AW X M d bc bs pc L (.ref 16 :: st) (hp S) Po := k_get hd clX10 (j := 1) (by rw [hM]; exact fX10_15) rfl rfl k
theorem GX3_44 (hd : k_dc M pc (.getfield 44) 3 n) (hM : M.1.cls = RX3) (k : AW X M d bc bs n L (.ref 18 :: st) (hp S) Po) : AW X M d bc bs pc L (.ref 16 :: st) (hp S) Po := k_get hd clX10 (j := 1) (by rw [hM]; exact fX3_44) rfl rfl k
theorem GX1_69 (hd : k_dc M pc (.getfield 69) 3 n) (hM : M.1.cls = RX1) (k : AW X M d bc bs n L (.ref 18 :: st) (hp S) Po) : AW X M d bc bs pc L (.ref 16 :: st) (hp S) Po := k_get hd clX10 (j := 1) (by rw [hM]; exact fX1_69) rfl rfl k
theorem GX10_18 (hd : k_dc M pc (.getfield 18) 3 n) (hM : M.1.cls = RX10) (k : AW X M d bc bs n L (.ref 19 :: st) (hp S) Po) : AW X M d bc bs pc L (.ref 16 :: st) (hp S) Po := k_get hd clX10 (j := 2) (by rw [hM]; exact fX10_18) rfl rfl k
theorem GX10_21 (hd : k_dc M pc (.getfield 21) 3 n) (hM : M.1.cls = RX10) (k : AW X M d bc bs n L (.int (S.1 803) :: st) (hp S) Po) : AW X M d bc bs pc L (.ref 16 :: st) (hp S) Po := k_get hd clX10 (j := 3) (by rw [hM]; exact fX10_21) rfl rfl k
theorem PX10_21 {z : Int32} (hd : k_dc M pc (.putfield 21) 3 n) (hM : M.1.cls = RX10) (k : AW X M d bc bs n L st (hp (si S 803 z)) Po) : AW X M d bc bs pc L (.int z :: .ref 16 :: st) (hp S) Po := k_put hd clX10 (j := 3) (by rw [hM]; exact fX10_21) rfl rfl (Nat.le_of_ble_eq_true rfl) (fun _ => ⟨rfl, rfl⟩) rfl k
theorem GX11_325 (hd : k_dc M pc (.getfield 325) 3 n) (hM : M.1.cls = RX11) (k : AW X M d bc bs n L (.int (S.1 803) :: st) (hp S) Po) : AW X M d bc bs pc L (.ref 16 :: st) (hp S) Po := k_get hd clX10 (j := 3) (by rw [hM]; exact fX11_325) rfl rfl k
theorem GX8_9 (hd : k_dc M pc (.getfield 9) 3 n) (hM : M.1.cls = RX8) (k : AW X M d bc bs n L (.ref 21 :: st) (hp S) Po) : AW X M d bc bs pc L (.ref 20 :: st) (hp S) Po := k_get hd clX8 (j := 0) (by rw [hM]; exact fX8_9) rfl rfl k
theorem GX3_53 (hd : k_dc M pc (.getfield 53) 3 n) (hM : M.1.cls = RX3) (k : AW X M d bc bs n L (.ref 21 :: st) (hp S) Po) : AW X M d bc bs pc L (.ref 20 :: st) (hp S) Po := k_get hd clX8 (j := 0) (by rw [hM]; exact fX3_53) rfl rfl k
theorem GX8_15 (hd : k_dc M pc (.getfield 15) 3 n) (hM : M.1.cls = RX8) (k : AW X M d bc bs n L (.ref 22 :: st) (hp S) Po) : AW X M d bc bs pc L (.ref 20 :: st) (hp S) Po := k_get hd clX8 (j := 1) (by rw [hM]; exact fX8_15) rfl rfl k
theorem GX3_64 (hd : k_dc M pc (.getfield 64) 3 n) (hM : M.1.cls = RX3) (k : AW X M d bc bs n L (.ref 22 :: st) (hp S) Po) : AW X M d bc bs pc L (.ref 20 :: st) (hp S) Po := k_get hd clX8 (j := 1) (by rw [hM]; exact fX3_64) rfl rfl k
theorem GX8_18 (hd : k_dc M pc (.getfield 18) 3 n) (hM : M.1.cls = RX8) (k : AW X M d bc bs n L (.ref 23 :: st) (hp S) Po) : AW X M d bc bs pc L (.ref 20 :: st) (hp S) Po := k_get hd clX8 (j := 2) (by rw [hM]; exact fX8_18) rfl rfl k
theorem GX3_58 (hd : k_dc M pc (.getfield 58) 3 n) (hM : M.1.cls = RX3) (k : AW X M d bc bs n L (.ref 23 :: st) (hp S) Po) : AW X M d bc bs pc L (.ref 20 :: st) (hp S) Po := k_get hd clX8 (j := 2) (by rw [hM]; exact fX3_58) rfl rfl k
theorem GX8_21 (hd : k_dc M pc (.getfield 21) 3 n) (hM : M.1.cls = RX8) (k : AW X M d bc bs n L (.int (S.1 1003) :: st) (hp S) Po) : AW X M d bc bs pc L (.ref 20 :: st) (hp S) Po := k_get hd clX8 (j := 3) (by rw [hM]; exact fX8_21) rfl rfl k
theorem PX8_21 {z : Int32} (hd : k_dc M pc (.putfield 21) 3 n) (hM : M.1.cls = RX8) (k : AW X M d bc bs n L st (hp (si S 1003 z)) Po) : AW X M d bc bs pc L (.int z :: .ref 20 :: st) (hp S) Po := k_put hd clX8 (j := 3) (by rw [hM]; exact fX8_21) rfl rfl (Nat.le_of_ble_eq_true rfl) (fun _ => ⟨rfl, rfl⟩) rfl k
theorem GX11_259 (hd : k_dc M pc (.getfield 259) 3 n) (hM : M.1.cls = RX11) (k : AW X M d bc bs n L (.int (S.1 1003) :: st) (hp S) Po) : AW X M d bc bs pc L (.ref 20 :: st) (hp S) Po := k_get hd clX8 (j := 3) (by rw [hM]; exact fX11_259) rfl rfl k
theorem GX2_9 (hd : k_dc M pc (.getfield 9) 3 n) (hM : M.1.cls = RX2) (k : AW X M d bc bs n L (.ref 25 :: st) (hp S) Po) : AW X M d bc bs pc L (.ref 24 :: st) (hp S) Po := k_get hd clX2 (j := 0) (by rw [hM]; exact fX2_9) rfl rfl k
theorem GX5_9 (hd : k_dc M pc (.getfield 9) 3 n) (hM : M.1.cls = RX5) (k : AW X M d bc bs n L (.ref 27 :: st) (hp S) Po) : AW X M d bc bs pc L (.ref 26 :: st) (hp S) Po := k_get hd clX5 (j := 0) (by rw [hM]; exact fX5_9) rfl rfl k
theorem GX5_15 (hd : k_dc M pc (.getfield 15) 3 n) (hM : M.1.cls = RX5) (k : AW X M d bc bs n L (.ref 28 :: st) (hp S) Po) : AW X M d bc bs pc L (.ref 26 :: st) (hp S) Po := k_get hd clX5 (j := 1) (by rw [hM]; exact fX5_15) rfl rfl k
theorem GX5_18 (hd : k_dc M pc (.getfield 18) 3 n) (hM : M.1.cls = RX5) (k : AW X M d bc bs n L (.int (S.1 1302) :: st) (hp S) Po) : AW X M d bc bs pc L (.ref 26 :: st) (hp S) Po := k_get hd clX5 (j := 2) (by rw [hM]; exact fX5_18) rfl rfl k
theorem PX5_18 {z : Int32} (hd : k_dc M pc (.putfield 18) 3 n) (hM : M.1.cls = RX5) (k : AW X M d bc bs n L st (hp (si S 1302 z)) Po) : AW X M d bc bs pc L (.int z :: .ref 26 :: st) (hp S) Po := k_put hd clX5 (j := 2) (by rw [hM]; exact fX5_18) rfl rfl (Nat.le_of_ble_eq_true rfl) (fun _ => ⟨rfl, rfl⟩) rfl k
theorem GX11_326 (hd : k_dc M pc (.getfield 326) 3 n) (hM : M.1.cls = RX11) (k : AW X M d bc bs n L (.int (S.1 1302) :: st) (hp S) Po) : AW X M d bc bs pc L (.ref 26 :: st) (hp S) Po := k_get hd clX5 (j := 2) (by rw [hM]; exact fX11_326) rfl rfl k
theorem GX3_21 (hd : k_dc M pc (.getfield 21) 3 n) (hM : M.1.cls = RX3) (k : AW X M d bc bs n L (.ref 16 :: st) (hp S) Po) : AW X M d bc bs pc L (.ref 29 :: st) (hp S) Po := k_get hd clX3 (j := 0) (by rw [hM]; exact fX3_21) rfl rfl k
theorem GX3_25 (hd : k_dc M pc (.getfield 25) 3 n) (hM : M.1.cls = RX3) (k : AW X M d bc bs n L (.ref 20 :: st) (hp S) Po) : AW X M d bc bs pc L (.ref 29 :: st) (hp S) Po := k_get hd clX3 (j := 1) (by rw [hM]; exact fX3_25) rfl rfl k
theorem GX3_29 (hd : k_dc M pc (.getfield 29) 3 n) (hM : M.1.cls = RX3) (k : AW X M d bc bs n L (.ref 24 :: st) (hp S) Po) : AW X M d bc bs pc L (.ref 29 :: st) (hp S) Po := k_get hd clX3 (j := 2) (by rw [hM]; exact fX3_29) rfl rfl k
theorem GX3_33 (hd : k_dc M pc (.getfield 33) 3 n) (hM : M.1.cls = RX3) (k : AW X M d bc bs n L (.ref 26 :: st) (hp S) Po) : AW X M d bc bs pc L (.ref 29 :: st) (hp S) Po := k_get hd clX3 (j := 3) (by rw [hM]; exact fX3_33) rfl rfl k
theorem GX3_9 (hd : k_dc M pc (.getfield 9) 3 n) (hM : M.1.cls = RX3) (k : AW X M d bc bs n L (.ref 30 :: st) (hp S) Po) : AW X M d bc bs pc L (.ref 29 :: st) (hp S) Po := k_get hd clX3 (j := 4) (by rw [hM]; exact fX3_9) rfl rfl k
theorem GX3_15 (hd : k_dc M pc (.getfield 15) 3 n) (hM : M.1.cls = RX3) (k : AW X M d bc bs n L (.ref 31 :: st) (hp S) Po) : AW X M d bc bs pc L (.ref 29 :: st) (hp S) Po := k_get hd clX3 (j := 5) (by rw [hM]; exact fX3_15) rfl rfl k
theorem GX3_18 (hd : k_dc M pc (.getfield 18) 3 n) (hM : M.1.cls = RX3) (k : AW X M d bc bs n L (.ref 32 :: st) (hp S) Po) : AW X M d bc bs pc L (.ref 29 :: st) (hp S) Po := k_get hd clX3 (j := 6) (by rw [hM]; exact fX3_18) rfl rfl k
theorem GX1_31 (hd : k_dc M pc (.getfield 31) 3 n) (hM : M.1.cls = RX1) (k : AW X M d bc bs n L (.ref 16 :: st) (hp S) Po) : AW X M d bc bs pc L (.ref 33 :: st) (hp S) Po := k_get hd clX1 (j := 0) (by rw [hM]; exact fX1_31) rfl rfl k
theorem GX1_35 (hd : k_dc M pc (.getfield 35) 3 n) (hM : M.1.cls = RX1) (k : AW X M d bc bs n L (.ref 24 :: st) (hp S) Po) : AW X M d bc bs pc L (.ref 33 :: st) (hp S) Po := k_get hd clX1 (j := 1) (by rw [hM]; exact fX1_35) rfl rfl k
theorem GX1_11 (hd : k_dc M pc (.getfield 11) 3 n) (hM : M.1.cls = RX1) (k : AW X M d bc bs n L (.ref 34 :: st) (hp S) Po) : AW X M d bc bs pc L (.ref 33 :: st) (hp S) Po := k_get hd clX1 (j := 2) (by rw [hM]; exact fX1_11) rfl rfl k
theorem GX1_15 (hd : k_dc M pc (.getfield 15) 3 n) (hM : M.1.cls = RX1) (k : AW X M d bc bs n L (.ref 35 :: st) (hp S) Po) : AW X M d bc bs pc L (.ref 33 :: st) (hp S) Po := k_get hd clX1 (j := 3) (by rw [hM]; exact fX1_15) rfl rfl k
theorem GX1_18 (hd : k_dc M pc (.getfield 18) 3 n) (hM : M.1.cls = RX1) (k : AW X M d bc bs n L (.ref 36 :: st) (hp S) Po) : AW X M d bc bs pc L (.ref 33 :: st) (hp S) Po := k_get hd clX1 (j := 4) (by rw [hM]; exact fX1_18) rfl rfl k
theorem GX1_21 (hd : k_dc M pc (.getfield 21) 3 n) (hM : M.1.cls = RX1) (k : AW X M d bc bs n L (.ref 37 :: st) (hp S) Po) : AW X M d bc bs pc L (.ref 33 :: st) (hp S) Po := k_get hd clX1 (j := 5) (by rw [hM]; exact fX1_21) rfl rfl k
theorem GX1_24 (hd : k_dc M pc (.getfield 24) 3 n) (hM : M.1.cls = RX1) (k : AW X M d bc bs n L (.int (S.1 1656) :: st) (hp S) Po) : AW X M d bc bs pc L (.ref 33 :: st) (hp S) Po := k_get hd clX1 (j := 6) (by rw [hM]; exact fX1_24) rfl rfl k
theorem PX1_24 {z : Int32} (hd : k_dc M pc (.putfield 24) 3 n) (hM : M.1.cls = RX1) (k : AW X M d bc bs n L st (hp (si S 1656 z)) Po) : AW X M d bc bs pc L (.int z :: .ref 33 :: st) (hp S) Po := k_put hd clX1 (j := 6) (by rw [hM]; exact fX1_24) rfl rfl (Nat.le_of_ble_eq_true rfl) (fun _ => ⟨rfl, rfl⟩) rfl k
theorem GX11_327 (hd : k_dc M pc (.getfield 327) 3 n) (hM : M.1.cls = RX11) (k : AW X M d bc bs n L (.int (S.1 1656) :: st) (hp S) Po) : AW X M d bc bs pc L (.ref 33 :: st) (hp S) Po := k_get hd clX1 (j := 6) (by rw [hM]; exact fX11_327) rfl rfl k
theorem GX1_28 (hd : k_dc M pc (.getfield 28) 3 n) (hM : M.1.cls = RX1) (k : AW X M d bc bs n L (.int (S.1 1657) :: st) (hp S) Po) : AW X M d bc bs pc L (.ref 33 :: st) (hp S) Po := k_get hd clX1 (j := 7) (by rw [hM]; exact fX1_28) rfl rfl k
theorem PX1_28 {z : Int32} (hd : k_dc M pc (.putfield 28) 3 n) (hM : M.1.cls = RX1) (k : AW X M d bc bs n L st (hp (si S 1657 z)) Po) : AW X M d bc bs pc L (.int z :: .ref 33 :: st) (hp S) Po := k_put hd clX1 (j := 7) (by rw [hM]; exact fX1_28) rfl rfl (Nat.le_of_ble_eq_true rfl) (fun _ => ⟨rfl, rfl⟩) rfl k
theorem GX9_9_39 (hd : k_dc M pc (.getfield 9) 3 n) (hM : M.1.cls = RX9) (k : AW X M d bc bs n L (.ref 40 :: st) (hp S) Po) : AW X M d bc bs pc L (.ref 39 :: st) (hp S) Po := k_get hd clX9 (j := 0) (by rw [hM]; exact fX9_9) rfl rfl k
theorem GX9_9_42 (hd : k_dc M pc (.getfield 9) 3 n) (hM : M.1.cls = RX9) (k : AW X M d bc bs n L (.ref 43 :: st) (hp S) Po) : AW X M d bc bs pc L (.ref 42 :: st) (hp S) Po := k_get hd clX9 (j := 0) (by rw [hM]; exact fX9_9) rfl rfl k
theorem GX9_9_45 (hd : k_dc M pc (.getfield 9) 3 n) (hM : M.1.cls = RX9) (k : AW X M d bc bs n L (.ref 46 :: st) (hp S) Po) : AW X M d bc bs pc L (.ref 45 :: st) (hp S) Po := k_get hd clX9 (j := 0) (by rw [hM]; exact fX9_9) rfl rfl k
theorem GX9_15_39 (hd : k_dc M pc (.getfield 15) 3 n) (hM : M.1.cls = RX9) (k : AW X M d bc bs n L (.int (S.1 1951) :: st) (hp S) Po) : AW X M d bc bs pc L (.ref 39 :: st) (hp S) Po := k_get hd clX9 (j := 1) (by rw [hM]; exact fX9_15) rfl rfl k
theorem PX9_15_39 {z : Int32} (hd : k_dc M pc (.putfield 15) 3 n) (hM : M.1.cls = RX9) (k : AW X M d bc bs n L st (hp (si S 1951 z)) Po) : AW X M d bc bs pc L (.int z :: .ref 39 :: st) (hp S) Po := k_put hd clX9 (j := 1) (by rw [hM]; exact fX9_15) rfl rfl (Nat.le_of_ble_eq_true rfl) (fun _ => ⟨rfl, rfl⟩) rfl k
theorem GX9_15_42 (hd : k_dc M pc (.getfield 15) 3 n) (hM : M.1.cls = RX9) (k : AW X M d bc bs n L (.int (S.1 2101) :: st) (hp S) Po) : AW X M d bc bs pc L (.ref 42 :: st) (hp S) Po := k_get hd clX9 (j := 1) (by rw [hM]; exact fX9_15) rfl rfl k
theorem PX9_15_42 {z : Int32} (hd : k_dc M pc (.putfield 15) 3 n) (hM : M.1.cls = RX9) (k : AW X M d bc bs n L st (hp (si S 2101 z)) Po) : AW X M d bc bs pc L (.int z :: .ref 42 :: st) (hp S) Po := k_put hd clX9 (j := 1) (by rw [hM]; exact fX9_15) rfl rfl (Nat.le_of_ble_eq_true rfl) (fun _ => ⟨rfl, rfl⟩) rfl k
theorem GX9_15_45 (hd : k_dc M pc (.getfield 15) 3 n) (hM : M.1.cls = RX9) (k : AW X M d bc bs n L (.int (S.1 2251) :: st) (hp S) Po) : AW X M d bc bs pc L (.ref 45 :: st) (hp S) Po := k_get hd clX9 (j := 1) (by rw [hM]; exact fX9_15) rfl rfl k
theorem PX9_15_45 {z : Int32} (hd : k_dc M pc (.putfield 15) 3 n) (hM : M.1.cls = RX9) (k : AW X M d bc bs n L st (hp (si S 2251 z)) Po) : AW X M d bc bs pc L (.int z :: .ref 45 :: st) (hp S) Po := k_put hd clX9 (j := 1) (by rw [hM]; exact fX9_15) rfl rfl (Nat.le_of_ble_eq_true rfl) (fun _ => ⟨rfl, rfl⟩) rfl k
theorem GX9_19_39 (hd : k_dc M pc (.getfield 19) 3 n) (hM : M.1.cls = RX9) (k : AW X M d bc bs n L (.ref 41 :: st) (hp S) Po) : AW X M d bc bs pc L (.ref 39 :: st) (hp S) Po := k_get hd clX9 (j := 2) (by rw [hM]; exact fX9_19) rfl rfl k
theorem GX9_19_42 (hd : k_dc M pc (.getfield 19) 3 n) (hM : M.1.cls = RX9) (k : AW X M d bc bs n L (.ref 44 :: st) (hp S) Po) : AW X M d bc bs pc L (.ref 42 :: st) (hp S) Po := k_get hd clX9 (j := 2) (by rw [hM]; exact fX9_19) rfl rfl k
theorem GX9_19_45 (hd : k_dc M pc (.getfield 19) 3 n) (hM : M.1.cls = RX9) (k : AW X M d bc bs n L (.ref 47 :: st) (hp S) Po) : AW X M d bc bs pc L (.ref 45 :: st) (hp S) Po := k_get hd clX9 (j := 2) (by rw [hM]; exact fX9_19) rfl rfl k
theorem GX4_41 (hd : k_dc M pc (.getfield 41) 3 n) (hM : M.1.cls = RX4) (k : AW X M d bc bs n L (.ref 29 :: st) (hp S) Po) : AW X M d bc bs pc L (.ref 38 :: st) (hp S) Po := k_get hd clX4 (j := 0) (by rw [hM]; exact fX4_41) rfl rfl k
theorem GX4_45 (hd : k_dc M pc (.getfield 45) 3 n) (hM : M.1.cls = RX4) (k : AW X M d bc bs n L (.ref 16 :: st) (hp S) Po) : AW X M d bc bs pc L (.ref 38 :: st) (hp S) Po := k_get hd clX4 (j := 1) (by rw [hM]; exact fX4_45) rfl rfl k
theorem GX4_49 (hd : k_dc M pc (.getfield 49) 3 n) (hM : M.1.cls = RX4) (k : AW X M d bc bs n L (.ref 24 :: st) (hp S) Po) : AW X M d bc bs pc L (.ref 38 :: st) (hp S) Po := k_get hd clX4 (j := 2) (by rw [hM]; exact fX4_49) rfl rfl k
theorem GX4_53 (hd : k_dc M pc (.getfield 53) 3 n) (hM : M.1.cls = RX4) (k : AW X M d bc bs n L (.ref 26 :: st) (hp S) Po) : AW X M d bc bs pc L (.ref 38 :: st) (hp S) Po := k_get hd clX4 (j := 3) (by rw [hM]; exact fX4_53) rfl rfl k
theorem GX4_12 (hd : k_dc M pc (.getfield 12) 3 n) (hM : M.1.cls = RX4) (k : AW X M d bc bs n L (.ref 39 :: st) (hp S) Po) : AW X M d bc bs pc L (.ref 38 :: st) (hp S) Po := k_get hd clX4 (j := 4) (by rw [hM]; exact fX4_12) rfl rfl k
theorem GX11_219 (hd : k_dc M pc (.getfield 219) 3 n) (hM : M.1.cls = RX11) (k : AW X M d bc bs n L (.ref 39 :: st) (hp S) Po) : AW X M d bc bs pc L (.ref 38 :: st) (hp S) Po := k_get hd clX4 (j := 4) (by rw [hM]; exact fX11_219) rfl rfl k
theorem GX4_18 (hd : k_dc M pc (.getfield 18) 3 n) (hM : M.1.cls = RX4) (k : AW X M d bc bs n L (.ref 42 :: st) (hp S) Po) : AW X M d bc bs pc L (.ref 38 :: st) (hp S) Po := k_get hd clX4 (j := 5) (by rw [hM]; exact fX4_18) rfl rfl k
theorem GX11_229 (hd : k_dc M pc (.getfield 229) 3 n) (hM : M.1.cls = RX11) (k : AW X M d bc bs n L (.ref 42 :: st) (hp S) Po) : AW X M d bc bs pc L (.ref 38 :: st) (hp S) Po := k_get hd clX4 (j := 5) (by rw [hM]; exact fX11_229) rfl rfl k
theorem GX4_21 (hd : k_dc M pc (.getfield 21) 3 n) (hM : M.1.cls = RX4) (k : AW X M d bc bs n L (.ref 45 :: st) (hp S) Po) : AW X M d bc bs pc L (.ref 38 :: st) (hp S) Po := k_get hd clX4 (j := 6) (by rw [hM]; exact fX4_21) rfl rfl k
theorem GX11_232 (hd : k_dc M pc (.getfield 232) 3 n) (hM : M.1.cls = RX11) (k : AW X M d bc bs n L (.ref 45 :: st) (hp S) Po) : AW X M d bc bs pc L (.ref 38 :: st) (hp S) Po := k_get hd clX4 (j := 6) (by rw [hM]; exact fX11_232) rfl rfl k
theorem GX4_24 (hd : k_dc M pc (.getfield 24) 3 n) (hM : M.1.cls = RX4) (k : AW X M d bc bs n L (.int (S.1 1907) :: st) (hp S) Po) : AW X M d bc bs pc L (.ref 38 :: st) (hp S) Po := k_get hd clX4 (j := 7) (by rw [hM]; exact fX4_24) rfl rfl k
theorem GX11_247 (hd : k_dc M pc (.getfield 247) 3 n) (hM : M.1.cls = RX11) (k : AW X M d bc bs n L (.int (S.1 1907) :: st) (hp S) Po) : AW X M d bc bs pc L (.ref 38 :: st) (hp S) Po := k_get hd clX4 (j := 7) (by rw [hM]; exact fX11_247) rfl rfl k
theorem PX11_247 {z : Int32} (hd : k_dc M pc (.putfield 247) 3 n) (hM : M.1.cls = RX11) (k : AW X M d bc bs n L st (hp (si S 1907 z)) Po) : AW X M d bc bs pc L (.int z :: .ref 38 :: st) (hp S) Po := k_put hd clX4 (j := 7) (by rw [hM]; exact fX11_247) rfl rfl (Nat.le_of_ble_eq_true rfl) (fun _ => ⟨rfl, rfl⟩) rfl k
theorem GX4_28 (hd : k_dc M pc (.getfield 28) 3 n) (hM : M.1.cls = RX4) (k : AW X M d bc bs n L (.ref 48 :: st) (hp S) Po) : AW X M d bc bs pc L (.ref 38 :: st) (hp S) Po := k_get hd clX4 (j := 8) (by rw [hM]; exact fX4_28) rfl rfl k
theorem GX4_32 (hd : k_dc M pc (.getfield 32) 3 n) (hM : M.1.cls = RX4) (k : AW X M d bc bs n L (.ref 49 :: st) (hp S) Po) : AW X M d bc bs pc L (.ref 38 :: st) (hp S) Po := k_get hd clX4 (j := 9) (by rw [hM]; exact fX4_32) rfl rfl k
theorem GX4_35 (hd : k_dc M pc (.getfield 35) 3 n) (hM : M.1.cls = RX4) (k : AW X M d bc bs n L (.ref 50 :: st) (hp S) Po) : AW X M d bc bs pc L (.ref 38 :: st) (hp S) Po := k_get hd clX4 (j := 10) (by rw [hM]; exact fX4_35) rfl rfl k
theorem GX4_38 (hd : k_dc M pc (.getfield 38) 3 n) (hM : M.1.cls = RX4) (k : AW X M d bc bs n L (.ref 51 :: st) (hp S) Po) : AW X M d bc bs pc L (.ref 38 :: st) (hp S) Po := k_get hd clX4 (j := 11) (by rw [hM]; exact fX4_38) rfl rfl k
theorem GX11_67 (hd : k_dc M pc (.getfield 67) 3 n) (hM : M.1.cls = RX11) (k : AW X M d bc bs n L (.ref 16 :: st) (hp S) Po) : AW X M d bc bs pc L (.ref 0 :: st) (hp S) Po := k_get hd clX11 (j := 0) (by rw [hM]; exact fX11_67) rfl rfl k
theorem GX11_71 (hd : k_dc M pc (.getfield 71) 3 n) (hM : M.1.cls = RX11) (k : AW X M d bc bs n L (.ref 20 :: st) (hp S) Po) : AW X M d bc bs pc L (.ref 0 :: st) (hp S) Po := k_get hd clX11 (j := 1) (by rw [hM]; exact fX11_71) rfl rfl k
theorem GX11_75 (hd : k_dc M pc (.getfield 75) 3 n) (hM : M.1.cls = RX11) (k : AW X M d bc bs n L (.ref 24 :: st) (hp S) Po) : AW X M d bc bs pc L (.ref 0 :: st) (hp S) Po := k_get hd clX11 (j := 2) (by rw [hM]; exact fX11_75) rfl rfl k
theorem GX11_79 (hd : k_dc M pc (.getfield 79) 3 n) (hM : M.1.cls = RX11) (k : AW X M d bc bs n L (.ref 26 :: st) (hp S) Po) : AW X M d bc bs pc L (.ref 0 :: st) (hp S) Po := k_get hd clX11 (j := 3) (by rw [hM]; exact fX11_79) rfl rfl k
theorem GX11_92 (hd : k_dc M pc (.getfield 92) 3 n) (hM : M.1.cls = RX11) (k : AW X M d bc bs n L (.ref 33 :: st) (hp S) Po) : AW X M d bc bs pc L (.ref 0 :: st) (hp S) Po := k_get hd clX11 (j := 4) (by rw [hM]; exact fX11_92) rfl rfl k
theorem GX11_83 (hd : k_dc M pc (.getfield 83) 3 n) (hM : M.1.cls = RX11) (k : AW X M d bc bs n L (.ref 29 :: st) (hp S) Po) : AW X M d bc bs pc L (.ref 0 :: st) (hp S) Po := k_get hd clX11 (j := 5) (by rw [hM]; exact fX11_83) rfl rfl k
theorem GX11_101 (hd : k_dc M pc (.getfield 101) 3 n) (hM : M.1.cls = RX11) (k : AW X M d bc bs n L (.ref 38 :: st) (hp S) Po) : AW X M d bc bs pc L (.ref 0 :: st) (hp S) Po := k_get hd clX11 (j := 6) (by rw [hM]; exact fX11_101) rfl rfl k
theorem GX11_10 (hd : k_dc M pc (.getfield 10) 3 n) (hM : M.1.cls = RX11) (k : AW X M d bc bs n L (.ref 1 :: st) (hp S) Po) : AW X M d bc bs pc L (.ref 0 :: st) (hp S) Po := k_get hd clX11 (j := 7) (by rw [hM]; exact fX11_10) rfl rfl k
theorem GX11_19 (hd : k_dc M pc (.getfield 19) 3 n) (hM : M.1.cls = RX11) (k : AW X M d bc bs n L (.ref 4 :: st) (hp S) Po) : AW X M d bc bs pc L (.ref 0 :: st) (hp S) Po := k_get hd clX11 (j := 8) (by rw [hM]; exact fX11_19) rfl rfl k
theorem GX11_26 (hd : k_dc M pc (.getfield 26) 3 n) (hM : M.1.cls = RX11) (k : AW X M d bc bs n L (.ref 7 :: st) (hp S) Po) : AW X M d bc bs pc L (.ref 0 :: st) (hp S) Po := k_get hd clX11 (j := 9) (by rw [hM]; exact fX11_26) rfl rfl k
theorem GX11_30 (hd : k_dc M pc (.getfield 30) 3 n) (hM : M.1.cls = RX11) (k : AW X M d bc bs n L (.ref 12 :: st) (hp S) Po) : AW X M d bc bs pc L (.ref 0 :: st) (hp S) Po := k_get hd clX11 (j := 10) (by rw [hM]; exact fX11_30) rfl rfl k
theorem GX11_34 (hd : k_dc M pc (.getfield 34) 3 n) (hM : M.1.cls = RX11) (k : AW X M d bc bs n L (.int (S.1 11) :: st) (hp S) Po) : AW X M d bc bs pc L (.ref 0 :: st) (hp S) Po := k_get hd clX11 (j := 11) (by rw [hM]; exact fX11_34) rfl rfl k
theorem PX11_34 {z : Int32} (hd : k_dc M pc (.putfield 34) 3 n) (hM : M.1.cls = RX11) (k : AW X M d bc bs n L st (hp (si S 11 z)) Po) : AW X M d bc bs pc L (.int z :: .ref 0 :: st) (hp S) Po := k_put hd clX11 (j := 11) (by rw [hM]; exact fX11_34) rfl rfl (Nat.le_of_ble_eq_true rfl) (fun _ => ⟨rfl, rfl⟩) rfl k
theorem GX11_38 (hd : k_dc M pc (.getfield 38) 3 n) (hM : M.1.cls = RX11) (k : AW X M d bc bs n L (.ref 13 :: st) (hp S) Po) : AW X M d bc bs pc L (.ref 0 :: st) (hp S) Po := k_get hd clX11 (j := 12) (by rw [hM]; exact fX11_38) rfl rfl k
theorem GX11_41 (hd : k_dc M pc (.getfield 41) 3 n) (hM : M.1.cls = RX11) (k : AW X M d bc bs n L (.ref 14 :: st) (hp S) Po) : AW X M d bc bs pc L (.ref 0 :: st) (hp S) Po := k_get hd clX11 (j := 13) (by rw [hM]; exact fX11_41) rfl rfl k
theorem GX11_44 (hd : k_dc M pc (.getfield 44) 3 n) (hM : M.1.cls = RX11) (k : AW X M d bc bs n L (.int (S.1 14) :: st) (hp S) Po) : AW X M d bc bs pc L (.ref 0 :: st) (hp S) Po := k_get hd clX11 (j := 14) (by rw [hM]; exact fX11_44) rfl rfl k
theorem GX11_47 (hd : k_dc M pc (.getfield 47) 3 n) (hM : M.1.cls = RX11) (k : AW X M d bc bs n L (.ref 15 :: st) (hp S) Po) : AW X M d bc bs pc L (.ref 0 :: st) (hp S) Po := k_get hd clX11 (j := 15) (by rw [hM]; exact fX11_47) rfl rfl k
theorem ar2 (S : k_S) : (hp S)[2]? = some (.inl (240, .inl (S.2.1 2))) := rfl
theorem as2 (S : k_S) (f : Nat → Int32) : (hp S).set 2 (.inl (240, .inl f)) = hp (sa S 2 f) := rfl
theorem ar3 (S : k_S) : (hp S)[3]? = some (.inl (120, .inl (S.2.1 3))) := rfl
theorem as3 (S : k_S) (f : Nat → Int32) : (hp S).set 3 (.inl (120, .inl f)) = hp (sa S 3 f) := rfl
theorem ar5 (S : k_S) : (hp S)[5]? = some (.inl (50, .inl (S.2.1 5))) := rfl
theorem as5 (S : k_S) (f : Nat → Int32) : (hp S).set 5 (.inl (50, .inl f)) = hp (sa S 5 f) := rfl
theorem ar6 (S : k_S) : (hp S)[6]? = some (.inl (24, .inl (S.2.1 6))) := rfl
theorem as6 (S : k_S) (f : Nat → Int32) : (hp S).set 6 (.inl (24, .inl f)) = hp (sa S 6 f) := rfl
theorem ar8 (S : k_S) : (hp S)[8]? = some (.inl (6, .inl (S.2.1 8))) := rfl
theorem as8 (S : k_S) (f : Nat → Int32) : (hp S).set 8 (.inl (6, .inl f)) = hp (sa S 8 f) := rfl
theorem ar9 (S : k_S) : (hp S)[9]? = some (.inl (6, .inl (S.2.1 9))) := rfl
theorem as9 (S : k_S) (f : Nat → Int32) : (hp S).set 9 (.inl (6, .inl f)) = hp (sa S 9 f) := rfl
theorem ar10 (S : k_S) : (hp S)[10]? = some (.inl (360, .inr (.inl (S.2.2 10)))) := rfl
theorem as10 (S : k_S) (f : Nat → Int64) : (hp S).set 10 (.inl (360, .inr (.inl f))) = hp (sj S 10 f) := rfl
theorem ar11 (S : k_S) : (hp S)[11]? = some (.inl (60, .inr (.inl (S.2.2 11)))) := rfl
theorem as11 (S : k_S) (f : Nat → Int64) : (hp S).set 11 (.inl (60, .inr (.inl f))) = hp (sj S 11 f) := rfl
theorem ar12 (S : k_S) : (hp S)[12]? = some (.inl (120, .inl (S.2.1 12))) := rfl
theorem as12 (S : k_S) (f : Nat → Int32) : (hp S).set 12 (.inl (120, .inl f)) = hp (sa S 12 f) := rfl
theorem ar13 (S : k_S) : (hp S)[13]? = some (.inl (10, .inl (S.2.1 13))) := rfl
theorem as13 (S : k_S) (f : Nat → Int32) : (hp S).set 13 (.inl (10, .inl f)) = hp (sa S 13 f) := rfl
theorem ar14 (S : k_S) : (hp S)[14]? = some (.inl (10, .inl (S.2.1 14))) := rfl
theorem as14 (S : k_S) (f : Nat → Int32) : (hp S).set 14 (.inl (10, .inl f)) = hp (sa S 14 f) := rfl
theorem ar15 (S : k_S) : (hp S)[15]? = some (.inl (5, .inl (S.2.1 15))) := rfl
theorem as15 (S : k_S) (f : Nat → Int32) : (hp S).set 15 (.inl (5, .inl f)) = hp (sa S 15 f) := rfl
theorem ar17 (S : k_S) : (hp S)[17]? = some (.inl (6, .inl (S.2.1 17))) := rfl
theorem as17 (S : k_S) (f : Nat → Int32) : (hp S).set 17 (.inl (6, .inl f)) = hp (sa S 17 f) := rfl
theorem ar18 (S : k_S) : (hp S)[18]? = some (.inl (6, .inl (S.2.1 18))) := rfl
theorem as18 (S : k_S) (f : Nat → Int32) : (hp S).set 18 (.inl (6, .inl f)) = hp (sa S 18 f) := rfl
theorem ar19 (S : k_S) : (hp S)[19]? = some (.inl (6, .inl (S.2.1 19))) := rfl
theorem as19 (S : k_S) (f : Nat → Int32) : (hp S).set 19 (.inl (6, .inl f)) = hp (sa S 19 f) := rfl
theorem ar21 (S : k_S) : (hp S)[21]? = some (.inl (5, .inl (S.2.1 21))) := rfl
theorem as21 (S : k_S) (f : Nat → Int32) : (hp S).set 21 (.inl (5, .inl f)) = hp (sa S 21 f) := rfl
theorem ar22 (S : k_S) : (hp S)[22]? = some (.inl (600, .inl (S.2.1 22))) := rfl
theorem as22 (S : k_S) (f : Nat → Int32) : (hp S).set 22 (.inl (600, .inl f)) = hp (sa S 22 f) := rfl
theorem ar23 (S : k_S) : (hp S)[23]? = some (.inl (600, .inl (S.2.1 23))) := rfl
theorem as23 (S : k_S) (f : Nat → Int32) : (hp S).set 23 (.inl (600, .inl f)) = hp (sa S 23 f) := rfl
theorem ar25 (S : k_S) : (hp S)[25]? = some (.inl (120, .inl (S.2.1 25))) := rfl
theorem as25 (S : k_S) (f : Nat → Int32) : (hp S).set 25 (.inl (120, .inl f)) = hp (sa S 25 f) := rfl
theorem ar27 (S : k_S) : (hp S)[27]? = some (.inl (4, .inl (S.2.1 27))) := rfl
theorem as27 (S : k_S) (f : Nat → Int32) : (hp S).set 27 (.inl (4, .inl f)) = hp (sa S 27 f) := rfl
theorem ar28 (S : k_S) : (hp S)[28]? = some (.inl (4, .inl (S.2.1 28))) := rfl
theorem as28 (S : k_S) (f : Nat → Int32) : (hp S).set 28 (.inl (4, .inl f)) = hp (sa S 28 f) := rfl
theorem ar30 (S : k_S) : (hp S)[30]? = some (.inl (120, .inl (S.2.1 30))) := rfl
theorem as30 (S : k_S) (f : Nat → Int32) : (hp S).set 30 (.inl (120, .inl f)) = hp (sa S 30 f) := rfl
theorem ar31 (S : k_S) : (hp S)[31]? = some (.inl (120, .inl (S.2.1 31))) := rfl
theorem as31 (S : k_S) (f : Nat → Int32) : (hp S).set 31 (.inl (120, .inl f)) = hp (sa S 31 f) := rfl
theorem ar32 (S : k_S) : (hp S)[32]? = some (.inl (120, .inl (S.2.1 32))) := rfl
theorem as32 (S : k_S) (f : Nat → Int32) : (hp S).set 32 (.inl (120, .inl f)) = hp (sa S 32 f) := rfl
theorem ar34 (S : k_S) : (hp S)[34]? = some (.inl (40, .inl (S.2.1 34))) := rfl
theorem as34 (S : k_S) (f : Nat → Int32) : (hp S).set 34 (.inl (40, .inl f)) = hp (sa S 34 f) := rfl
theorem ar35 (S : k_S) : (hp S)[35]? = some (.inl (40, .inl (S.2.1 35))) := rfl
theorem as35 (S : k_S) (f : Nat → Int32) : (hp S).set 35 (.inl (40, .inl f)) = hp (sa S 35 f) := rfl
theorem ar36 (S : k_S) : (hp S)[36]? = some (.inl (40, .inl (S.2.1 36))) := rfl
theorem as36 (S : k_S) (f : Nat → Int32) : (hp S).set 36 (.inl (40, .inl f)) = hp (sa S 36 f) := rfl
theorem ar37 (S : k_S) : (hp S)[37]? = some (.inl (40, .inl (S.2.1 37))) := rfl
theorem as37 (S : k_S) (f : Nat → Int32) : (hp S).set 37 (.inl (40, .inl f)) = hp (sa S 37 f) := rfl
theorem ar40 (S : k_S) : (hp S)[40]? = some (.inl (240, .inl (S.2.1 40))) := rfl
theorem as40 (S : k_S) (f : Nat → Int32) : (hp S).set 40 (.inl (240, .inl f)) = hp (sa S 40 f) := rfl
theorem ar41 (S : k_S) : (hp S)[41]? = some (.inl (120, .inl (S.2.1 41))) := rfl
theorem as41 (S : k_S) (f : Nat → Int32) : (hp S).set 41 (.inl (120, .inl f)) = hp (sa S 41 f) := rfl
theorem ar43 (S : k_S) : (hp S)[43]? = some (.inl (240, .inl (S.2.1 43))) := rfl
theorem as43 (S : k_S) (f : Nat → Int32) : (hp S).set 43 (.inl (240, .inl f)) = hp (sa S 43 f) := rfl
theorem ar44 (S : k_S) : (hp S)[44]? = some (.inl (120, .inl (S.2.1 44))) := rfl
theorem as44 (S : k_S) (f : Nat → Int32) : (hp S).set 44 (.inl (120, .inl f)) = hp (sa S 44 f) := rfl
theorem ar46 (S : k_S) : (hp S)[46]? = some (.inl (240, .inl (S.2.1 46))) := rfl
theorem as46 (S : k_S) (f : Nat → Int32) : (hp S).set 46 (.inl (240, .inl f)) = hp (sa S 46 f) := rfl
theorem ar47 (S : k_S) : (hp S)[47]? = some (.inl (120, .inl (S.2.1 47))) := rfl
theorem as47 (S : k_S) (f : Nat → Int32) : (hp S).set 47 (.inl (120, .inl f)) = hp (sa S 47 f) := rfl
theorem ar48 (S : k_S) : (hp S)[48]? = some (.inl (7, .inl (S.2.1 48))) := rfl
theorem as48 (S : k_S) (f : Nat → Int32) : (hp S).set 48 (.inl (7, .inl f)) = hp (sa S 48 f) := rfl
theorem ar49 (S : k_S) : (hp S)[49]? = some (.inl (120, .inl (S.2.1 49))) := rfl
theorem as49 (S : k_S) (f : Nat → Int32) : (hp S).set 49 (.inl (120, .inl f)) = hp (sa S 49 f) := rfl
theorem ar50 (S : k_S) : (hp S)[50]? = some (.inl (121, .inl (S.2.1 50))) := rfl
theorem as50 (S : k_S) (f : Nat → Int32) : (hp S).set 50 (.inl (121, .inl f)) = hp (sa S 50 f) := rfl
theorem ar51 (S : k_S) : (hp S)[51]? = some (.inl (120, .inl (S.2.1 51))) := rfl
theorem as51 (S : k_S) (f : Nat → Int32) : (hp S).set 51 (.inl (120, .inl f)) = hp (sa S 51 f) := rfl
end KX
