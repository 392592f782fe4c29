/-! THE STATE: all ints of all fields (field j of the object in place a: 50 a + j), all rows of ints, all rows of longs (by place). Places 0 .. 51 are the class's, 52 .. 86 the reference's. -/
abbrev k_S : Type := (Nat → Int32) × (Nat → Nat → Int32) × (Nat → Nat → Int64)
def si (S : k_S) (k : Nat) (v : Int32) : k_S := (va_up S.1 k v, S.2)
def sa (S : k_S) (a : Nat) (f : Nat → Int32) : k_S := (S.1, va_up S.2.1 a f, S.2.2)
def sj (S : k_S) (a : Nat) (f : Nat → Int64) : k_S := (S.1, S.2.1, va_up S.2.2 a f)
def hp (S : k_S) : k_H := [.inr (11, [.ref 16, .ref 20, .ref 24, .ref 26, .ref 33, .ref 29, .ref 38, .ref 1, .ref 4, .ref 7, .ref 12, .int (S.1 11), .ref 13, .ref 14, .int (S.1 14), .ref 15]),
  .inr (6, [.ref 2, .int (S.1 51), .ref 3, .int (S.1 53), .int (S.1 54), .int (S.1 55), .int (S.1 56), .int (S.1 57)]),
  .inl (240, .inl (S.2.1 2)),
  .inl (120, .inl (S.2.1 3)),
  .inr (0, [.ref 5, .int (S.1 201), .ref 6, .int (S.1 203), .int (S.1 204), .int (S.1 205)]),
  .inl (50, .inl (S.2.1 5)),
  .inl (24, .inl (S.2.1 6)),
  .inr (7, [.ref 8, .ref 9, .ref 10, .ref 11]),
  .inl (6, .inl (S.2.1 8)),
  .inl (6, .inl (S.2.1 9)),
  .inl (360, .inr (S.2.2 10)),
  .inl (60, .inr (S.2.2 11)),
  .inl (120, .inl (S.2.1 12)),
  .inl (10, .inl (S.2.1 13)),
  .inl (10, .inl (S.2.1 14)),
  .inl (5, .inl (S.2.1 15)),
  .inr (10, [.ref 17, .ref 18, .ref 19, .int (S.1 803)]),
  .inl (6, .inl (S.2.1 17)),
  .inl (6, .inl (S.2.1 18)),
  .inl (6, .inl (S.2.1 19)),
  .inr (8, [.ref 21, .ref 22, .ref 23, .int (S.1 1003)]),
  .inl (5, .inl (S.2.1 21)),
  .inl (600, .inl (S.2.1 22)),
  .inl (600, .inl (S.2.1 23)),
  .inr (2, [.ref 25]),
  .inl (120, .inl (S.2.1 25)),
  .inr (5, [.ref 27, .ref 28, .int (S.1 1302)]),
  .inl (4, .inl (S.2.1 27)),
  .inl (4, .inl (S.2.1 28)),
  .inr (3, [.ref 16, .ref 20, .ref 24, .ref 26, .ref 30, .ref 31, .ref 32]),
  .inl (120, .inl (S.2.1 30)),
  .inl (120, .inl (S.2.1 31)),
  .inl (120, .inl (S.2.1 32)),
  .inr (1, [.ref 16, .ref 24, .ref 34, .ref 35, .ref 36, .ref 37, .int (S.1 1656), .int (S.1 1657)]),
  .inl (40, .inl (S.2.1 34)),
  .inl (40, .inl (S.2.1 35)),
  .inl (40, .inl (S.2.1 36)),
  .inl (40, .inl (S.2.1 37)),
  .inr (4, [.ref 29, .ref 16, .ref 24, .ref 26, .ref 39, .ref 42, .ref 45, .int (S.1 1907), .ref 48, .ref 49, .ref 50, .ref 51]),
  .inr (9, [.ref 40, .int (S.1 1951), .ref 41, .int (S.1 1953)]),
  .inl (240, .inl (S.2.1 40)),
  .inl (120, .inl (S.2.1 41)),
  .inr (9, [.ref 43, .int (S.1 2101), .ref 44, .int (S.1 2103)]),
  .inl (240, .inl (S.2.1 43)),
  .inl (120, .inl (S.2.1 44)),
  .inr (9, [.ref 46, .int (S.1 2251), .ref 47, .int (S.1 2253)]),
  .inl (240, .inl (S.2.1 46)),
  .inl (120, .inl (S.2.1 47)),
  .inl (7, .inl (S.2.1 48)),
  .inl (120, .inl (S.2.1 49)),
  .inl (121, .inl (S.2.1 50)),
  .inl (120, .inl (S.2.1 51)),
  .inr (12, [.int (S.1 2600), .ref 53, .ref 54, .ref 55, .int (S.1 2604), .ref 56, .ref 57, .ref 58, .ref 59, .ref 60, .ref 61, .int (S.1 2611), .ref 62, .ref 63, .ref 64, .int (S.1 2615), .ref 65, .ref 66, .int (S.1 2618), .int (S.1 2619), .ref 67, .ref 68, .ref 69, .ref 70, .ref 71, .int (S.1 2625), .int (S.1 2626), .int (S.1 2627), .ref 72, .int (S.1 2629), .ref 73, .ref 74, .ref 75, .ref 76, .ref 77, .ref 78, .ref 79, .ref 80, .int (S.1 2638), .int (S.1 2639), .int (S.1 2640), .int (S.1 2641), .ref 81, .ref 82, .ref 83, .ref 84, .ref 85, .int (S.1 2647), .ref 86]),
  .inl (6, .inl (S.2.1 53)),
  .inl (6, .inl (S.2.1 54)),
  .inl (6, .inl (S.2.1 55)),
  .inl (5, .inl (S.2.1 56)),
  .inl (5, .inl (S.2.1 57)),
  .inl (5, .inl (S.2.1 58)),
  .inl (600, .inl (S.2.1 59)),
  .inl (600, .inl (S.2.1 60)),
  .inl (120, .inl (S.2.1 61)),
  .inl (4, .inl (S.2.1 62)),
  .inl (4, .inl (S.2.1 63)),
  .inl (120, .inl (S.2.1 64)),
  .inl (800, .inl (S.2.1 65)),
  .inl (4, .inl (S.2.1 66)),
  .inl (10, .inl (S.2.1 67)),
  .inl (10, .inl (S.2.1 68)),
  .inl (40, .inl (S.2.1 69)),
  .inl (40, .inl (S.2.1 70)),
  .inl (40, .inl (S.2.1 71)),
  .inl (50, .inl (S.2.1 72)),
  .inl (24, .inl (S.2.1 73)),
  .inl (6, .inl (S.2.1 74)),
  .inl (6, .inl (S.2.1 75)),
  .inl (6, .inl (S.2.1 76)),
  .inl (360, .inr (S.2.2 77)),
  .inl (120, .inl (S.2.1 78)),
  .inl (120, .inl (S.2.1 79)),
  .inl (120, .inl (S.2.1 80)),
  .inl (8, .inl (S.2.1 81)),
  .inl (130, .inl (S.2.1 82)),
  .inl (120, .inl (S.2.1 83)),
  .inl (121, .inr (S.2.2 84)),
  .inl (120, .inl (S.2.1 85)),
  .inl (60, .inr (S.2.2 86))]
/-- a contract with one answer and one state behind it -/
abbrev Rt (v : Option Value) (h2 : k_H) : Option Value → k_H → Prop := fun r h' => r = v ∧ h' = h2
/-- an answer, and a state behind it of which Q holds -/
abbrev Rx (v : Option Value) (Q : k_S → Prop) : Option Value → k_H → Prop := fun r h' => r = v ∧ ∃ S', h' = hp S' ∧ Q S'
section KX
variable {X : k_X} {M M' : k_M} {d d' bc bs pc n na ix : Nat} {L st As rest : List Value} {S : k_S} {h h2 : k_H} {Po : Option Value → k_H → Prop} {v : Value}
theorem cV1 {a : Nat} (hd : k_dc M pc (.invokevirtual ix) 3 n) (hl : Cond.methodLink M.1.cls ix M'.1 ∈ k_tG) (hw : k_mw M' na) (hw2 : Cond.instanceMethod M'.1 ∈ k_tG ∧ Cond.selects M'.1.cls M'.1 M'.1 ∈ k_tG) (hrc : ∃ (ci : Nat) (fs : List Value) (q : vw_C), h[a]? = some (.inr (ci, fs)) ∧ vwCl[ci]? = some q ∧ q.1 = M'.1.cls) (hp : k_popn (na + 1) st [] = some (.ref a :: As, rest)) (hsp : Sp d' 0 0 M' (.ref a :: As) h (Rt (some v) h2)) (hdd : d' < d) (hct : (rest.map fun v => v.category).sum ≤ 8) (k : AW X M d bc bs n L (v :: rest) h2 Po) : AW X M d bc bs pc L st h Po := by
  obtain ⟨ci, fs, q, hq1, hq2, hq3⟩ := hrc
  refine k_callV hd hl hw hw2 ⟨hq1, q, hq2, hq3⟩ hp hsp hdd ⟨(Nat.zero_add _).symm, (Nat.zero_add _).symm⟩ hct ?_
  rintro r h' ⟨rfl, rfl⟩
  exact k
theorem cV0 {a : Nat} (hd : k_dc M pc (.invokevirtual ix) 3 n) (hl : Cond.methodLink M.1.cls ix M'.1 ∈ k_tG) (hw : k_mw M' na) (hw2 : Cond.instanceMethod M'.1 ∈ k_tG ∧ Cond.selects M'.1.cls M'.1 M'.1 ∈ k_tG) (hrc : ∃ (ci : Nat) (fs : List Value) (q : vw_C), h[a]? = some (.inr (ci, fs)) ∧ vwCl[ci]? = some q ∧ q.1 = M'.1.cls) (hp : k_popn (na + 1) st [] = some (.ref a :: As, rest)) (hsp : Sp d' 0 0 M' (.ref a :: As) h (Rt (none) h2)) (hdd : d' < d) (hct : (rest.map fun v => v.category).sum ≤ 8) (k : AW X M d bc bs n L (rest) h2 Po) : AW X M d bc bs pc L st h Po := by
  obtain ⟨ci, fs, q, hq1, hq2, hq3⟩ := hrc
  refine k_callV hd hl hw hw2 ⟨hq1, q, hq2, hq3⟩ hp hsp hdd ⟨(Nat.zero_add _).symm, (Nat.zero_add _).symm⟩ hct ?_
  rintro r h' ⟨rfl, rfl⟩
  exact k
theorem cS1 (hd : k_dc M pc (.invokestatic ix) 3 n) (hl : Cond.methodLink M.1.cls ix M'.1 ∈ k_tG) (hw : k_mw M' na) (hw2 : Cond.static M'.1 ∈ k_tG) (hp : k_popn na st [] = some (As, rest)) (hsp : Sp d' 0 0 M' (As) h (Rt (some v) h2)) (hdd : d' < d) (hct : (rest.map fun v => v.category).sum ≤ 8) (k : AW X M d bc bs n L (v :: rest) h2 Po) : AW X M d bc bs pc L st h Po := by
  skip
  refine k_callS hd hl hw hw2 hp hsp hdd ⟨(Nat.zero_add _).symm, (Nat.zero_add _).symm⟩ hct ?_
  rintro r h' ⟨rfl, rfl⟩
  exact k
theorem cS0 (hd : k_dc M pc (.invokestatic ix) 3 n) (hl : Cond.methodLink M.1.cls ix M'.1 ∈ k_tG) (hw : k_mw M' na) (hw2 : Cond.static M'.1 ∈ k_tG) (hp : k_popn na st [] = some (As, rest)) (hsp : Sp d' 0 0 M' (As) h (Rt (none) h2)) (hdd : d' < d) (hct : (rest.map fun v => v.category).sum ≤ 8) (k : AW X M d bc bs n L (rest) h2 Po) : AW X M d bc bs pc L st h Po := by
  skip
  refine k_callS hd hl hw hw2 hp hsp hdd ⟨(Nat.zero_add _).symm, (Nat.zero_add _).symm⟩ hct ?_
  rintro r h' ⟨rfl, rfl⟩
  exact k
theorem cN1 {hst : String} (hd : k_dc M pc (.invokestatic ix) 3 n) (hl : Cond.methodLinkNest M.1.cls ix M'.1 hst ∈ k_tN) (hw : k_mw M' na) (hw2 : Cond.static M'.1 ∈ k_tG) (hp : k_popn na st [] = some (As, rest)) (hsp : Sp d' 0 0 M' (As) h (Rt (some v) h2)) (hdd : d' < d) (hct : (rest.map fun v => v.category).sum ≤ 8) (k : AW X M d bc bs n L (v :: rest) h2 Po) : AW X M d bc bs pc L st h Po := by
  skip
  refine k_callSN hd hl hw hw2 hp hsp hdd ⟨(Nat.zero_add _).symm, (Nat.zero_add _).symm⟩ hct ?_
  rintro r h' ⟨rfl, rfl⟩
  exact k
theorem cN0 {hst : String} (hd : k_dc M pc (.invokestatic ix) 3 n) (hl : Cond.methodLinkNest M.1.cls ix M'.1 hst ∈ k_tN) (hw : k_mw M' na) (hw2 : Cond.static M'.1 ∈ k_tG) (hp : k_popn na st [] = some (As, rest)) (hsp : Sp d' 0 0 M' (As) h (Rt (none) h2)) (hdd : d' < d) (hct : (rest.map fun v => v.category).sum ≤ 8) (k : AW X M d bc bs n L (rest) h2 Po) : AW X M d bc bs pc L st h Po := by
  skip
  refine k_callSN hd hl hw hw2 hp hsp hdd ⟨(Nat.zero_add _).symm, (Nat.zero_add _).symm⟩ hct ?_
  rintro r h' ⟨rfl, rfl⟩
  exact k
theorem GX6_9 (hd : k_dc M pc (.getfield 9) 3 n) (hM : M.1.cls = RX6) (k : AW X M d bc bs n L (.ref 2 :: st) (hp S) Po) : AW X M d bc bs pc L (.ref 1 :: st) (hp S) Po := k_get hd clX6 (j := 0) (by rw [hM]; exact fX6_9) rfl rfl k
theorem GX9_25 (hd : k_dc M pc (.getfield 25) 3 n) (hM : M.1.cls = RX9) (k : AW X M d bc bs n L (.ref 2 :: st) (hp S) Po) : AW X M d bc bs pc L (.ref 1 :: st) (hp S) Po := k_getN hd clX6 (j := 0) (by rw [hM]; exact fX9_25) rfl rfl k
theorem GX6_18 (hd : k_dc M pc (.getfield 18) 3 n) (hM : M.1.cls = RX6) (k : AW X M d bc bs n L (.int (S.1 51) :: st) (hp S) Po) : AW X M d bc bs pc L (.ref 1 :: st) (hp S) Po := k_get hd clX6 (j := 1) (by rw [hM]; exact fX6_18) rfl rfl k
theorem PX6_18 {z : Int32} (hd : k_dc M pc (.putfield 18) 3 n) (hM : M.1.cls = RX6) (k : AW X M d bc bs n L st (hp (si S 51 z)) Po) : AW X M d bc bs pc L (.int z :: .ref 1 :: st) (hp S) Po := k_put hd clX6 (j := 1) (by rw [hM]; exact fX6_18) rfl rfl (Nat.le_of_ble_eq_true rfl) (fun _ => ⟨rfl, rfl⟩) rfl k
theorem GX9_22 (hd : k_dc M pc (.getfield 22) 3 n) (hM : M.1.cls = RX9) (k : AW X M d bc bs n L (.int (S.1 51) :: st) (hp S) Po) : AW X M d bc bs pc L (.ref 1 :: st) (hp S) Po := k_getN hd clX6 (j := 1) (by rw [hM]; exact fX9_22) rfl rfl k
theorem GX6_15 (hd : k_dc M pc (.getfield 15) 3 n) (hM : M.1.cls = RX6) (k : AW X M d bc bs n L (.ref 3 :: st) (hp S) Po) : AW X M d bc bs pc L (.ref 1 :: st) (hp S) Po := k_get hd clX6 (j := 2) (by rw [hM]; exact fX6_15) rfl rfl k
theorem GX6_22 (hd : k_dc M pc (.getfield 22) 3 n) (hM : M.1.cls = RX6) (k : AW X M d bc bs n L (.int (S.1 53) :: st) (hp S) Po) : AW X M d bc bs pc L (.ref 1 :: st) (hp S) Po := k_get hd clX6 (j := 3) (by rw [hM]; exact fX6_22) rfl rfl k
theorem PX6_22 {z : Int32} (hd : k_dc M pc (.putfield 22) 3 n) (hM : M.1.cls = RX6) (k : AW X M d bc bs n L st (hp (si S 53 z)) Po) : AW X M d bc bs pc L (.int z :: .ref 1 :: st) (hp S) Po := k_put hd clX6 (j := 3) (by rw [hM]; exact fX6_22) rfl rfl (Nat.le_of_ble_eq_true rfl) (fun _ => ⟨rfl, rfl⟩) rfl k
theorem GX6_25 (hd : k_dc M pc (.getfield 25) 3 n) (hM : M.1.cls = RX6) (k : AW X M d bc bs n L (.int (S.1 54) :: st) (hp S) Po) : AW X M d bc bs pc L (.ref 1 :: st) (hp S) Po := k_get hd clX6 (j := 4) (by rw [hM]; exact fX6_25) rfl rfl k
theorem PX6_25 {z : Int32} (hd : k_dc M pc (.putfield 25) 3 n) (hM : M.1.cls = RX6) (k : AW X M d bc bs n L st (hp (si S 54 z)) Po) : AW X M d bc bs pc L (.int z :: .ref 1 :: st) (hp S) Po := k_put hd clX6 (j := 4) (by rw [hM]; exact fX6_25) rfl rfl (Nat.le_of_ble_eq_true rfl) (fun _ => ⟨rfl, rfl⟩) rfl k
theorem GX6_28 (hd : k_dc M pc (.getfield 28) 3 n) (hM : M.1.cls = RX6) (k : AW X M d bc bs n L (.int (S.1 55) :: st) (hp S) Po) : AW X M d bc bs pc L (.ref 1 :: st) (hp S) Po := k_get hd clX6 (j := 5) (by rw [hM]; exact fX6_28) rfl rfl k
theorem PX6_28 {z : Int32} (hd : k_dc M pc (.putfield 28) 3 n) (hM : M.1.cls = RX6) (k : AW X M d bc bs n L st (hp (si S 55 z)) Po) : AW X M d bc bs pc L (.int z :: .ref 1 :: st) (hp S) Po := k_put hd clX6 (j := 5) (by rw [hM]; exact fX6_28) rfl rfl (Nat.le_of_ble_eq_true rfl) (fun _ => ⟨rfl, rfl⟩) rfl k
theorem GX6_31 (hd : k_dc M pc (.getfield 31) 3 n) (hM : M.1.cls = RX6) (k : AW X M d bc bs n L (.int (S.1 56) :: st) (hp S) Po) : AW X M d bc bs pc L (.ref 1 :: st) (hp S) Po := k_get hd clX6 (j := 6) (by rw [hM]; exact fX6_31) rfl rfl k
theorem PX6_31 {z : Int32} (hd : k_dc M pc (.putfield 31) 3 n) (hM : M.1.cls = RX6) (hz : z = 0 ∨ z = 1) (k : AW X M d bc bs n L st (hp (si S 56 z)) Po) : AW X M d bc bs pc L (.int z :: .ref 1 :: st) (hp S) Po := k_put hd clX6 (j := 6) (by rw [hM]; exact fX6_31) rfl rfl (Nat.le_of_ble_eq_true rfl) (fun _ => by rcases hz with rfl | rfl <;> exact ⟨rfl, rfl⟩) rfl k
theorem GX6_35 (hd : k_dc M pc (.getfield 35) 3 n) (hM : M.1.cls = RX6) (k : AW X M d bc bs n L (.int (S.1 57) :: st) (hp S) Po) : AW X M d bc bs pc L (.ref 1 :: st) (hp S) Po := k_get hd clX6 (j := 7) (by rw [hM]; exact fX6_35) rfl rfl k
theorem PX6_35 {z : Int32} (hd : k_dc M pc (.putfield 35) 3 n) (hM : M.1.cls = RX6) (hz : z = 0 ∨ z = 1) (k : AW X M d bc bs n L st (hp (si S 57 z)) Po) : AW X M d bc bs pc L (.int z :: .ref 1 :: st) (hp S) Po := k_put hd clX6 (j := 7) (by rw [hM]; exact fX6_35) rfl rfl (Nat.le_of_ble_eq_true rfl) (fun _ => by rcases hz with rfl | rfl <;> exact ⟨rfl, rfl⟩) rfl k
theorem GX0_11 (hd : k_dc M pc (.getfield 11) 3 n) (hM : M.1.cls = RX0) (k : AW X M d bc bs n L (.ref 5 :: st) (hp S) Po) : AW X M d bc bs pc L (.ref 4 :: st) (hp S) Po := k_get hd clX0 (j := 0) (by rw [hM]; exact fX0_11) rfl rfl k
theorem GX0_15 (hd : k_dc M pc (.getfield 15) 3 n) (hM : M.1.cls = RX0) (k : AW X M d bc bs n L (.int (S.1 201) :: st) (hp S) Po) : AW X M d bc bs pc L (.ref 4 :: st) (hp S) Po := k_get hd clX0 (j := 1) (by rw [hM]; exact fX0_15) rfl rfl k
theorem PX0_15 {z : Int32} (hd : k_dc M pc (.putfield 15) 3 n) (hM : M.1.cls = RX0) (k : AW X M d bc bs n L st (hp (si S 201 z)) Po) : AW X M d bc bs pc L (.int z :: .ref 4 :: st) (hp S) Po := k_put hd clX0 (j := 1) (by rw [hM]; exact fX0_15) rfl rfl (Nat.le_of_ble_eq_true rfl) (fun _ => ⟨rfl, rfl⟩) rfl k
theorem GX11_330 (hd : k_dc M pc (.getfield 330) 3 n) (hM : M.1.cls = RX11) (k : AW X M d bc bs n L (.int (S.1 201) :: st) (hp S) Po) : AW X M d bc bs pc L (.ref 4 :: st) (hp S) Po := k_get hd clX0 (j := 1) (by rw [hM]; exact fX11_330) rfl rfl k
theorem GX0_19 (hd : k_dc M pc (.getfield 19) 3 n) (hM : M.1.cls = RX0) (k : AW X M d bc bs n L (.ref 6 :: st) (hp S) Po) : AW X M d bc bs pc L (.ref 4 :: st) (hp S) Po := k_get hd clX0 (j := 2) (by rw [hM]; exact fX0_19) rfl rfl k
theorem GX0_22 (hd : k_dc M pc (.getfield 22) 3 n) (hM : M.1.cls = RX0) (k : AW X M d bc bs n L (.int (S.1 203) :: st) (hp S) Po) : AW X M d bc bs pc L (.ref 4 :: st) (hp S) Po := k_get hd clX0 (j := 3) (by rw [hM]; exact fX0_22) rfl rfl k
theorem PX0_22 {z : Int32} (hd : k_dc M pc (.putfield 22) 3 n) (hM : M.1.cls = RX0) (k : AW X M d bc bs n L st (hp (si S 203 z)) Po) : AW X M d bc bs pc L (.int z :: .ref 4 :: st) (hp S) Po := k_put hd clX0 (j := 3) (by rw [hM]; exact fX0_22) rfl rfl (Nat.le_of_ble_eq_true rfl) (fun _ => ⟨rfl, rfl⟩) rfl k
theorem GX11_331 (hd : k_dc M pc (.getfield 331) 3 n) (hM : M.1.cls = RX11) (k : AW X M d bc bs n L (.int (S.1 203) :: st) (hp S) Po) : AW X M d bc bs pc L (.ref 4 :: st) (hp S) Po := k_get hd clX0 (j := 3) (by rw [hM]; exact fX11_331) rfl rfl k
theorem GX0_45 (hd : k_dc M pc (.getfield 45) 3 n) (hM : M.1.cls = RX0) (k : AW X M d bc bs n L (.int (S.1 204) :: st) (hp S) Po) : AW X M d bc bs pc L (.ref 4 :: st) (hp S) Po := k_get hd clX0 (j := 4) (by rw [hM]; exact fX0_45) rfl rfl k
theorem PX0_45 {z : Int32} (hd : k_dc M pc (.putfield 45) 3 n) (hM : M.1.cls = RX0) (k : AW X M d bc bs n L st (hp (si S 204 z)) Po) : AW X M d bc bs pc L (.int z :: .ref 4 :: st) (hp S) Po := k_put hd clX0 (j := 4) (by rw [hM]; exact fX0_45) rfl rfl (Nat.le_of_ble_eq_true rfl) (fun _ => ⟨rfl, rfl⟩) rfl k
theorem GX0_51 (hd : k_dc M pc (.getfield 51) 3 n) (hM : M.1.cls = RX0) (k : AW X M d bc bs n L (.int (S.1 205) :: st) (hp S) Po) : AW X M d bc bs pc L (.ref 4 :: st) (hp S) Po := k_get hd clX0 (j := 5) (by rw [hM]; exact fX0_51) rfl rfl k
theorem PX0_51 {z : Int32} (hd : k_dc M pc (.putfield 51) 3 n) (hM : M.1.cls = RX0) (k : AW X M d bc bs n L st (hp (si S 205 z)) Po) : AW X M d bc bs pc L (.int z :: .ref 4 :: st) (hp S) Po := k_put hd clX0 (j := 5) (by rw [hM]; exact fX0_51) rfl rfl (Nat.le_of_ble_eq_true rfl) (fun _ => ⟨rfl, rfl⟩) rfl k
theorem GX7_11 (hd : k_dc M pc (.getfield 11) 3 n) (hM : M.1.cls = RX7) (k : AW X M d bc bs n L (.ref 8 :: st) (hp S) Po) : AW X M d bc bs pc L (.ref 7 :: st) (hp S) Po := k_get hd clX7 (j := 0) (by rw [hM]; exact fX7_11) rfl rfl k
theorem GX7_15 (hd : k_dc M pc (.getfield 15) 3 n) (hM : M.1.cls = RX7) (k : AW X M d bc bs n L (.ref 9 :: st) (hp S) Po) : AW X M d bc bs pc L (.ref 7 :: st) (hp S) Po := k_get hd clX7 (j := 1) (by rw [hM]; exact fX7_15) rfl rfl k
theorem GX7_18 (hd : k_dc M pc (.getfield 18) 3 n) (hM : M.1.cls = RX7) (k : AW X M d bc bs n L (.ref 10 :: st) (hp S) Po) : AW X M d bc bs pc L (.ref 7 :: st) (hp S) Po := k_get hd clX7 (j := 2) (by rw [hM]; exact fX7_18) rfl rfl k
theorem GX7_22 (hd : k_dc M pc (.getfield 22) 3 n) (hM : M.1.cls = RX7) (k : AW X M d bc bs n L (.ref 11 :: st) (hp S) Po) : AW X M d bc bs pc L (.ref 7 :: st) (hp S) Po := k_get hd clX7 (j := 3) (by rw [hM]; exact fX7_22) rfl rfl k
theorem GX10_9 (hd : k_dc M pc (.getfield 9) 3 n) (hM : M.1.cls = RX10) (k : AW X M d bc bs n L (.ref 17 :: st) (hp S) Po) : AW X M d bc bs pc L (.ref 16 :: st) (hp S) Po := k_get hd clX10 (j := 0) (by rw [hM]; exact fX10_9) rfl rfl k
theorem GX3_61 (hd : k_dc M pc (.getfield 61) 3 n) (hM : M.1.cls = RX3) (k : AW X M d bc bs n L (.ref 17 :: st) (hp S) Po) : AW X M d bc bs pc L (.ref 16 :: st) (hp S) Po := k_get hd clX10 (j := 0) (by rw [hM]; exact fX3_61) rfl rfl k
theorem GX1_64 (hd : k_dc M pc (.getfield 64) 3 n) (hM : M.1.cls = RX1) (k : AW X M d bc bs n L (.ref 17 :: st) (hp S) Po) : AW X M d bc bs pc L (.ref 16 :: st) (hp S) Po := k_get hd clX10 (j := 0) (by rw [hM]; exact fX1_64) rfl rfl k
theorem GX4_117 (hd : k_dc M pc (.getfield 117) 3 n) (hM : M.1.cls = RX4) (k : AW X M d bc bs n L (.ref 17 :: st) (hp S) Po) : AW X M d bc bs pc L (.ref 16 :: st) (hp S) Po := k_get hd clX10 (j := 0) (by rw [hM]; exact fX4_117) rfl rfl k
theorem GX10_15 (hd : k_dc M pc (.getfield 15) 3 n) (hM : M.1.cls = RX10) (k : AW X M d bc bs n L (.ref 18 :: st) (hp S) Po) : AW X M d bc bs pc L (.ref 16 :: st) (hp S) Po := k_get hd clX10 (j := 1) (by rw [hM]; exact fX10_15) rfl rfl k
theorem GX3_44 (hd : k_dc M pc (.getfield 44) 3 n) (hM : M.1.cls = RX3) (k : AW X M d bc bs n L (.ref 18 :: st) (hp S) Po) : AW X M d bc bs pc L (.ref 16 :: st) (hp S) Po := k_get hd clX10 (j := 1) (by rw [hM]; exact fX3_44) rfl rfl k
theorem GX1_69 (hd : k_dc M pc (.getfield 69) 3 n) (hM : M.1.cls = RX1) (k : AW X M d bc bs n L (.ref 18 :: st) (hp S) Po) : AW X M d bc bs pc L (.ref 16 :: st) (hp S) Po := k_get hd clX10 (j := 1) (by rw [hM]; exact fX1_69) rfl rfl k
theorem GX10_18 (hd : k_dc M pc (.getfield 18) 3 n) (hM : M.1.cls = RX10) (k : AW X M d bc bs n L (.ref 19 :: st) (hp S) Po) : AW X M d bc bs pc L (.ref 16 :: st) (hp S) Po := k_get hd clX10 (j := 2) (by rw [hM]; exact fX10_18) rfl rfl k
theorem GX4_107 (hd : k_dc M pc (.getfield 107) 3 n) (hM : M.1.cls = RX4) (k : AW X M d bc bs n L (.ref 19 :: st) (hp S) Po) : AW X M d bc bs pc L (.ref 16 :: st) (hp S) Po := k_get hd clX10 (j := 2) (by rw [hM]; exact fX4_107) rfl rfl k
theorem GX10_21 (hd : k_dc M pc (.getfield 21) 3 n) (hM : M.1.cls = RX10) (k : AW X M d bc bs n L (.int (S.1 803) :: st) (hp S) Po) : AW X M d bc bs pc L (.ref 16 :: st) (hp S) Po := k_get hd clX10 (j := 3) (by rw [hM]; exact fX10_21) rfl rfl k
theorem PX10_21 {z : Int32} (hd : k_dc M pc (.putfield 21) 3 n) (hM : M.1.cls = RX10) (k : AW X M d bc bs n L st (hp (si S 803 z)) Po) : AW X M d bc bs pc L (.int z :: .ref 16 :: st) (hp S) Po := k_put hd clX10 (j := 3) (by rw [hM]; exact fX10_21) rfl rfl (Nat.le_of_ble_eq_true rfl) (fun _ => ⟨rfl, rfl⟩) rfl k
theorem GX3_97 (hd : k_dc M pc (.getfield 97) 3 n) (hM : M.1.cls = RX3) (k : AW X M d bc bs n L (.int (S.1 803) :: st) (hp S) Po) : AW X M d bc bs pc L (.ref 16 :: st) (hp S) Po := k_get hd clX10 (j := 3) (by rw [hM]; exact fX3_97) rfl rfl k
theorem GX11_325 (hd : k_dc M pc (.getfield 325) 3 n) (hM : M.1.cls = RX11) (k : AW X M d bc bs n L (.int (S.1 803) :: st) (hp S) Po) : AW X M d bc bs pc L (.ref 16 :: st) (hp S) Po := k_get hd clX10 (j := 3) (by rw [hM]; exact fX11_325) rfl rfl k
theorem GX8_9 (hd : k_dc M pc (.getfield 9) 3 n) (hM : M.1.cls = RX8) (k : AW X M d bc bs n L (.ref 21 :: st) (hp S) Po) : AW X M d bc bs pc L (.ref 20 :: st) (hp S) Po := k_get hd clX8 (j := 0) (by rw [hM]; exact fX8_9) rfl rfl k
theorem GX3_53 (hd : k_dc M pc (.getfield 53) 3 n) (hM : M.1.cls = RX3) (k : AW X M d bc bs n L (.ref 21 :: st) (hp S) Po) : AW X M d bc bs pc L (.ref 20 :: st) (hp S) Po := k_get hd clX8 (j := 0) (by rw [hM]; exact fX3_53) rfl rfl k
theorem GX8_15 (hd : k_dc M pc (.getfield 15) 3 n) (hM : M.1.cls = RX8) (k : AW X M d bc bs n L (.ref 22 :: st) (hp S) Po) : AW X M d bc bs pc L (.ref 20 :: st) (hp S) Po := k_get hd clX8 (j := 1) (by rw [hM]; exact fX8_15) rfl rfl k
theorem GX3_64 (hd : k_dc M pc (.getfield 64) 3 n) (hM : M.1.cls = RX3) (k : AW X M d bc bs n L (.ref 22 :: st) (hp S) Po) : AW X M d bc bs pc L (.ref 20 :: st) (hp S) Po := k_get hd clX8 (j := 1) (by rw [hM]; exact fX3_64) rfl rfl k
theorem GX8_18 (hd : k_dc M pc (.getfield 18) 3 n) (hM : M.1.cls = RX8) (k : AW X M d bc bs n L (.ref 23 :: st) (hp S) Po) : AW X M d bc bs pc L (.ref 20 :: st) (hp S) Po := k_get hd clX8 (j := 2) (by rw [hM]; exact fX8_18) rfl rfl k
theorem GX3_58 (hd : k_dc M pc (.getfield 58) 3 n) (hM : M.1.cls = RX3) (k : AW X M d bc bs n L (.ref 23 :: st) (hp S) Po) : AW X M d bc bs pc L (.ref 20 :: st) (hp S) Po := k_get hd clX8 (j := 2) (by rw [hM]; exact fX3_58) rfl rfl k
theorem GX8_21 (hd : k_dc M pc (.getfield 21) 3 n) (hM : M.1.cls = RX8) (k : AW X M d bc bs n L (.int (S.1 1003) :: st) (hp S) Po) : AW X M d bc bs pc L (.ref 20 :: st) (hp S) Po := k_get hd clX8 (j := 3) (by rw [hM]; exact fX8_21) rfl rfl k
theorem PX8_21 {z : Int32} (hd : k_dc M pc (.putfield 21) 3 n) (hM : M.1.cls = RX8) (k : AW X M d bc bs n L st (hp (si S 1003 z)) Po) : AW X M d bc bs pc L (.int z :: .ref 20 :: st) (hp S) Po := k_put hd clX8 (j := 3) (by rw [hM]; exact fX8_21) rfl rfl (Nat.le_of_ble_eq_true rfl) (fun _ => ⟨rfl, rfl⟩) rfl k
theorem GX11_259 (hd : k_dc M pc (.getfield 259) 3 n) (hM : M.1.cls = RX11) (k : AW X M d bc bs n L (.int (S.1 1003) :: st) (hp S) Po) : AW X M d bc bs pc L (.ref 20 :: st) (hp S) Po := k_get hd clX8 (j := 3) (by rw [hM]; exact fX11_259) rfl rfl k
theorem GX2_9 (hd : k_dc M pc (.getfield 9) 3 n) (hM : M.1.cls = RX2) (k : AW X M d bc bs n L (.ref 25 :: st) (hp S) Po) : AW X M d bc bs pc L (.ref 24 :: st) (hp S) Po := k_get hd clX2 (j := 0) (by rw [hM]; exact fX2_9) rfl rfl k
theorem GX5_9 (hd : k_dc M pc (.getfield 9) 3 n) (hM : M.1.cls = RX5) (k : AW X M d bc bs n L (.ref 27 :: st) (hp S) Po) : AW X M d bc bs pc L (.ref 26 :: st) (hp S) Po := k_get hd clX5 (j := 0) (by rw [hM]; exact fX5_9) rfl rfl k
theorem GX5_15 (hd : k_dc M pc (.getfield 15) 3 n) (hM : M.1.cls = RX5) (k : AW X M d bc bs n L (.ref 28 :: st) (hp S) Po) : AW X M d bc bs pc L (.ref 26 :: st) (hp S) Po := k_get hd clX5 (j := 1) (by rw [hM]; exact fX5_15) rfl rfl k
theorem GX5_18 (hd : k_dc M pc (.getfield 18) 3 n) (hM : M.1.cls = RX5) (k : AW X M d bc bs n L (.int (S.1 1302) :: st) (hp S) Po) : AW X M d bc bs pc L (.ref 26 :: st) (hp S) Po := k_get hd clX5 (j := 2) (by rw [hM]; exact fX5_18) rfl rfl k
theorem PX5_18 {z : Int32} (hd : k_dc M pc (.putfield 18) 3 n) (hM : M.1.cls = RX5) (k : AW X M d bc bs n L st (hp (si S 1302 z)) Po) : AW X M d bc bs pc L (.int z :: .ref 26 :: st) (hp S) Po := k_put hd clX5 (j := 2) (by rw [hM]; exact fX5_18) rfl rfl (Nat.le_of_ble_eq_true rfl) (fun _ => ⟨rfl, rfl⟩) rfl k
theorem GX3_79 (hd : k_dc M pc (.getfield 79) 3 n) (hM : M.1.cls = RX3) (k : AW X M d bc bs n L (.int (S.1 1302) :: st) (hp S) Po) : AW X M d bc bs pc L (.ref 26 :: st) (hp S) Po := k_get hd clX5 (j := 2) (by rw [hM]; exact fX3_79) rfl rfl k
theorem GX11_326 (hd : k_dc M pc (.getfield 326) 3 n) (hM : M.1.cls = RX11) (k : AW X M d bc bs n L (.int (S.1 1302) :: st) (hp S) Po) : AW X M d bc bs pc L (.ref 26 :: st) (hp S) Po := k_get hd clX5 (j := 2) (by rw [hM]; exact fX11_326) rfl rfl k
theorem GX3_21 (hd : k_dc M pc (.getfield 21) 3 n) (hM : M.1.cls = RX3) (k : AW X M d bc bs n L (.ref 16 :: st) (hp S) Po) : AW X M d bc bs pc L (.ref 29 :: st) (hp S) Po := k_get hd clX3 (j := 0) (by rw [hM]; exact fX3_21) rfl rfl k
theorem GX3_25 (hd : k_dc M pc (.getfield 25) 3 n) (hM : M.1.cls = RX3) (k : AW X M d bc bs n L (.ref 20 :: st) (hp S) Po) : AW X M d bc bs pc L (.ref 29 :: st) (hp S) Po := k_get hd clX3 (j := 1) (by rw [hM]; exact fX3_25) rfl rfl k
theorem GX3_29 (hd : k_dc M pc (.getfield 29) 3 n) (hM : M.1.cls = RX3) (k : AW X M d bc bs n L (.ref 24 :: st) (hp S) Po) : AW X M d bc bs pc L (.ref 29 :: st) (hp S) Po := k_get hd clX3 (j := 2) (by rw [hM]; exact fX3_29) rfl rfl k
theorem GX3_33 (hd : k_dc M pc (.getfield 33) 3 n) (hM : M.1.cls = RX3) (k : AW X M d bc bs n L (.ref 26 :: st) (hp S) Po) : AW X M d bc bs pc L (.ref 29 :: st) (hp S) Po := k_get hd clX3 (j := 3) (by rw [hM]; exact fX3_33) rfl rfl k
theorem GX3_9 (hd : k_dc M pc (.getfield 9) 3 n) (hM : M.1.cls = RX3) (k : AW X M d bc bs n L (.ref 30 :: st) (hp S) Po) : AW X M d bc bs pc L (.ref 29 :: st) (hp S) Po := k_get hd clX3 (j := 4) (by rw [hM]; exact fX3_9) rfl rfl k
theorem GX3_15 (hd : k_dc M pc (.getfield 15) 3 n) (hM : M.1.cls = RX3) (k : AW X M d bc bs n L (.ref 31 :: st) (hp S) Po) : AW X M d bc bs pc L (.ref 29 :: st) (hp S) Po := k_get hd clX3 (j := 5) (by rw [hM]; exact fX3_15) rfl rfl k
theorem GX3_18 (hd : k_dc M pc (.getfield 18) 3 n) (hM : M.1.cls = RX3) (k : AW X M d bc bs n L (.ref 32 :: st) (hp S) Po) : AW X M d bc bs pc L (.ref 29 :: st) (hp S) Po := k_get hd clX3 (j := 6) (by rw [hM]; exact fX3_18) rfl rfl k
theorem GX1_31 (hd : k_dc M pc (.getfield 31) 3 n) (hM : M.1.cls = RX1) (k : AW X M d bc bs n L (.ref 16 :: st) (hp S) Po) : AW X M d bc bs pc L (.ref 33 :: st) (hp S) Po := k_get hd clX1 (j := 0) (by rw [hM]; exact fX1_31) rfl rfl k
theorem GX1_35 (hd : k_dc M pc (.getfield 35) 3 n) (hM : M.1.cls = RX1) (k : AW X M d bc bs n L (.ref 24 :: st) (hp S) Po) : AW X M d bc bs pc L (.ref 33 :: st) (hp S) Po := k_get hd clX1 (j := 1) (by rw [hM]; exact fX1_35) rfl rfl k
theorem GX1_11 (hd : k_dc M pc (.getfield 11) 3 n) (hM : M.1.cls = RX1) (k : AW X M d bc bs n L (.ref 34 :: st) (hp S) Po) : AW X M d bc bs pc L (.ref 33 :: st) (hp S) Po := k_get hd clX1 (j := 2) (by rw [hM]; exact fX1_11) rfl rfl k
theorem GX1_15 (hd : k_dc M pc (.getfield 15) 3 n) (hM : M.1.cls = RX1) (k : AW X M d bc bs n L (.ref 35 :: st) (hp S) Po) : AW X M d bc bs pc L (.ref 33 :: st) (hp S) Po := k_get hd clX1 (j := 3) (by rw [hM]; exact fX1_15) rfl rfl k
theorem GX1_18 (hd : k_dc M pc (.getfield 18) 3 n) (hM : M.1.cls = RX1) (k : AW X M d bc bs n L (.ref 36 :: st) (hp S) Po) : AW X M d bc bs pc L (.ref 33 :: st) (hp S) Po := k_get hd clX1 (j := 4) (by rw [hM]; exact fX1_18) rfl rfl k
theorem GX1_21 (hd : k_dc M pc (.getfield 21) 3 n) (hM : M.1.cls = RX1) (k : AW X M d bc bs n L (.ref 37 :: st) (hp S) Po) : AW X M d bc bs pc L (.ref 33 :: st) (hp S) Po := k_get hd clX1 (j := 5) (by rw [hM]; exact fX1_21) rfl rfl k
theorem GX1_24 (hd : k_dc M pc (.getfield 24) 3 n) (hM : M.1.cls = RX1) (k : AW X M d bc bs n L (.int (S.1 1656) :: st) (hp S) Po) : AW X M d bc bs pc L (.ref 33 :: st) (hp S) Po := k_get hd clX1 (j := 6) (by rw [hM]; exact fX1_24) rfl rfl k
theorem PX1_24 {z : Int32} (hd : k_dc M pc (.putfield 24) 3 n) (hM : M.1.cls = RX1) (k : AW X M d bc bs n L st (hp (si S 1656 z)) Po) : AW X M d bc bs pc L (.int z :: .ref 33 :: st) (hp S) Po := k_put hd clX1 (j := 6) (by rw [hM]; exact fX1_24) rfl rfl (Nat.le_of_ble_eq_true rfl) (fun _ => ⟨rfl, rfl⟩) rfl k
theorem GX11_327 (hd : k_dc M pc (.getfield 327) 3 n) (hM : M.1.cls = RX11) (k : AW X M d bc bs n L (.int (S.1 1656) :: st) (hp S) Po) : AW X M d bc bs pc L (.ref 33 :: st) (hp S) Po := k_get hd clX1 (j := 6) (by rw [hM]; exact fX11_327) rfl rfl k
theorem GX1_28 (hd : k_dc M pc (.getfield 28) 3 n) (hM : M.1.cls = RX1) (k : AW X M d bc bs n L (.int (S.1 1657) :: st) (hp S) Po) : AW X M d bc bs pc L (.ref 33 :: st) (hp S) Po := k_get hd clX1 (j := 7) (by rw [hM]; exact fX1_28) rfl rfl k
theorem PX1_28 {z : Int32} (hd : k_dc M pc (.putfield 28) 3 n) (hM : M.1.cls = RX1) (k : AW X M d bc bs n L st (hp (si S 1657 z)) Po) : AW X M d bc bs pc L (.int z :: .ref 33 :: st) (hp S) Po := k_put hd clX1 (j := 7) (by rw [hM]; exact fX1_28) rfl rfl (Nat.le_of_ble_eq_true rfl) (fun _ => ⟨rfl, rfl⟩) rfl k
theorem GX9_9_39 (hd : k_dc M pc (.getfield 9) 3 n) (hM : M.1.cls = RX9) (k : AW X M d bc bs n L (.ref 40 :: st) (hp S) Po) : AW X M d bc bs pc L (.ref 39 :: st) (hp S) Po := k_get hd clX9 (j := 0) (by rw [hM]; exact fX9_9) rfl rfl k
theorem GX9_9_42 (hd : k_dc M pc (.getfield 9) 3 n) (hM : M.1.cls = RX9) (k : AW X M d bc bs n L (.ref 43 :: st) (hp S) Po) : AW X M d bc bs pc L (.ref 42 :: st) (hp S) Po := k_get hd clX9 (j := 0) (by rw [hM]; exact fX9_9) rfl rfl k
theorem GX9_9_45 (hd : k_dc M pc (.getfield 9) 3 n) (hM : M.1.cls = RX9) (k : AW X M d bc bs n L (.ref 46 :: st) (hp S) Po) : AW X M d bc bs pc L (.ref 45 :: st) (hp S) Po := k_get hd clX9 (j := 0) (by rw [hM]; exact fX9_9) rfl rfl k
theorem GX9_15_39 (hd : k_dc M pc (.getfield 15) 3 n) (hM : M.1.cls = RX9) (k : AW X M d bc bs n L (.int (S.1 1951) :: st) (hp S) Po) : AW X M d bc bs pc L (.ref 39 :: st) (hp S) Po := k_get hd clX9 (j := 1) (by rw [hM]; exact fX9_15) rfl rfl k
theorem PX9_15_39 {z : Int32} (hd : k_dc M pc (.putfield 15) 3 n) (hM : M.1.cls = RX9) (k : AW X M d bc bs n L st (hp (si S 1951 z)) Po) : AW X M d bc bs pc L (.int z :: .ref 39 :: st) (hp S) Po := k_put hd clX9 (j := 1) (by rw [hM]; exact fX9_15) rfl rfl (Nat.le_of_ble_eq_true rfl) (fun _ => ⟨rfl, rfl⟩) rfl k
theorem GX9_15_42 (hd : k_dc M pc (.getfield 15) 3 n) (hM : M.1.cls = RX9) (k : AW X M d bc bs n L (.int (S.1 2101) :: st) (hp S) Po) : AW X M d bc bs pc L (.ref 42 :: st) (hp S) Po := k_get hd clX9 (j := 1) (by rw [hM]; exact fX9_15) rfl rfl k
theorem PX9_15_42 {z : Int32} (hd : k_dc M pc (.putfield 15) 3 n) (hM : M.1.cls = RX9) (k : AW X M d bc bs n L st (hp (si S 2101 z)) Po) : AW X M d bc bs pc L (.int z :: .ref 42 :: st) (hp S) Po := k_put hd clX9 (j := 1) (by rw [hM]; exact fX9_15) rfl rfl (Nat.le_of_ble_eq_true rfl) (fun _ => ⟨rfl, rfl⟩) rfl k
theorem GX9_15_45 (hd : k_dc M pc (.getfield 15) 3 n) (hM : M.1.cls = RX9) (k : AW X M d bc bs n L (.int (S.1 2251) :: st) (hp S) Po) : AW X M d bc bs pc L (.ref 45 :: st) (hp S) Po := k_get hd clX9 (j := 1) (by rw [hM]; exact fX9_15) rfl rfl k
theorem PX9_15_45 {z : Int32} (hd : k_dc M pc (.putfield 15) 3 n) (hM : M.1.cls = RX9) (k : AW X M d bc bs n L st (hp (si S 2251 z)) Po) : AW X M d bc bs pc L (.int z :: .ref 45 :: st) (hp S) Po := k_put hd clX9 (j := 1) (by rw [hM]; exact fX9_15) rfl rfl (Nat.le_of_ble_eq_true rfl) (fun _ => ⟨rfl, rfl⟩) rfl k
theorem GX9_19_39 (hd : k_dc M pc (.getfield 19) 3 n) (hM : M.1.cls = RX9) (k : AW X M d bc bs n L (.ref 41 :: st) (hp S) Po) : AW X M d bc bs pc L (.ref 39 :: st) (hp S) Po := k_get hd clX9 (j := 2) (by rw [hM]; exact fX9_19) rfl rfl k
theorem GX9_19_42 (hd : k_dc M pc (.getfield 19) 3 n) (hM : M.1.cls = RX9) (k : AW X M d bc bs n L (.ref 44 :: st) (hp S) Po) : AW X M d bc bs pc L (.ref 42 :: st) (hp S) Po := k_get hd clX9 (j := 2) (by rw [hM]; exact fX9_19) rfl rfl k
theorem GX9_19_45 (hd : k_dc M pc (.getfield 19) 3 n) (hM : M.1.cls = RX9) (k : AW X M d bc bs n L (.ref 47 :: st) (hp S) Po) : AW X M d bc bs pc L (.ref 45 :: st) (hp S) Po := k_get hd clX9 (j := 2) (by rw [hM]; exact fX9_19) rfl rfl k
theorem GX9_34_39 (hd : k_dc M pc (.getfield 34) 3 n) (hM : M.1.cls = RX9) (k : AW X M d bc bs n L (.int (S.1 1953) :: st) (hp S) Po) : AW X M d bc bs pc L (.ref 39 :: st) (hp S) Po := k_get hd clX9 (j := 3) (by rw [hM]; exact fX9_34) rfl rfl k
theorem PX9_34_39 {z : Int32} (hd : k_dc M pc (.putfield 34) 3 n) (hM : M.1.cls = RX9) (k : AW X M d bc bs n L st (hp (si S 1953 z)) Po) : AW X M d bc bs pc L (.int z :: .ref 39 :: st) (hp S) Po := k_put hd clX9 (j := 3) (by rw [hM]; exact fX9_34) rfl rfl (Nat.le_of_ble_eq_true rfl) (fun _ => ⟨rfl, rfl⟩) rfl k
theorem GX9_34_42 (hd : k_dc M pc (.getfield 34) 3 n) (hM : M.1.cls = RX9) (k : AW X M d bc bs n L (.int (S.1 2103) :: st) (hp S) Po) : AW X M d bc bs pc L (.ref 42 :: st) (hp S) Po := k_get hd clX9 (j := 3) (by rw [hM]; exact fX9_34) rfl rfl k
theorem PX9_34_42 {z : Int32} (hd : k_dc M pc (.putfield 34) 3 n) (hM : M.1.cls = RX9) (k : AW X M d bc bs n L st (hp (si S 2103 z)) Po) : AW X M d bc bs pc L (.int z :: .ref 42 :: st) (hp S) Po := k_put hd clX9 (j := 3) (by rw [hM]; exact fX9_34) rfl rfl (Nat.le_of_ble_eq_true rfl) (fun _ => ⟨rfl, rfl⟩) rfl k
theorem GX9_34_45 (hd : k_dc M pc (.getfield 34) 3 n) (hM : M.1.cls = RX9) (k : AW X M d bc bs n L (.int (S.1 2253) :: st) (hp S) Po) : AW X M d bc bs pc L (.ref 45 :: st) (hp S) Po := k_get hd clX9 (j := 3) (by rw [hM]; exact fX9_34) rfl rfl k
theorem PX9_34_45 {z : Int32} (hd : k_dc M pc (.putfield 34) 3 n) (hM : M.1.cls = RX9) (k : AW X M d bc bs n L st (hp (si S 2253 z)) Po) : AW X M d bc bs pc L (.int z :: .ref 45 :: st) (hp S) Po := k_put hd clX9 (j := 3) (by rw [hM]; exact fX9_34) rfl rfl (Nat.le_of_ble_eq_true rfl) (fun _ => ⟨rfl, rfl⟩) rfl k
theorem GX4_41 (hd : k_dc M pc (.getfield 41) 3 n) (hM : M.1.cls = RX4) (k : AW X M d bc bs n L (.ref 29 :: st) (hp S) Po) : AW X M d bc bs pc L (.ref 38 :: st) (hp S) Po := k_get hd clX4 (j := 0) (by rw [hM]; exact fX4_41) rfl rfl k
theorem GX4_45 (hd : k_dc M pc (.getfield 45) 3 n) (hM : M.1.cls = RX4) (k : AW X M d bc bs n L (.ref 16 :: st) (hp S) Po) : AW X M d bc bs pc L (.ref 38 :: st) (hp S) Po := k_get hd clX4 (j := 1) (by rw [hM]; exact fX4_45) rfl rfl k
theorem GX4_49 (hd : k_dc M pc (.getfield 49) 3 n) (hM : M.1.cls = RX4) (k : AW X M d bc bs n L (.ref 24 :: st) (hp S) Po) : AW X M d bc bs pc L (.ref 38 :: st) (hp S) Po := k_get hd clX4 (j := 2) (by rw [hM]; exact fX4_49) rfl rfl k
theorem GX4_53 (hd : k_dc M pc (.getfield 53) 3 n) (hM : M.1.cls = RX4) (k : AW X M d bc bs n L (.ref 26 :: st) (hp S) Po) : AW X M d bc bs pc L (.ref 38 :: st) (hp S) Po := k_get hd clX4 (j := 3) (by rw [hM]; exact fX4_53) rfl rfl k
theorem GX4_12 (hd : k_dc M pc (.getfield 12) 3 n) (hM : M.1.cls = RX4) (k : AW X M d bc bs n L (.ref 39 :: st) (hp S) Po) : AW X M d bc bs pc L (.ref 38 :: st) (hp S) Po := k_get hd clX4 (j := 4) (by rw [hM]; exact fX4_12) rfl rfl k
theorem GX11_219 (hd : k_dc M pc (.getfield 219) 3 n) (hM : M.1.cls = RX11) (k : AW X M d bc bs n L (.ref 39 :: st) (hp S) Po) : AW X M d bc bs pc L (.ref 38 :: st) (hp S) Po := k_get hd clX4 (j := 4) (by rw [hM]; exact fX11_219) rfl rfl k
theorem GX4_18 (hd : k_dc M pc (.getfield 18) 3 n) (hM : M.1.cls = RX4) (k : AW X M d bc bs n L (.ref 42 :: st) (hp S) Po) : AW X M d bc bs pc L (.ref 38 :: st) (hp S) Po := k_get hd clX4 (j := 5) (by rw [hM]; exact fX4_18) rfl rfl k
theorem GX11_229 (hd : k_dc M pc (.getfield 229) 3 n) (hM : M.1.cls = RX11) (k : AW X M d bc bs n L (.ref 42 :: st) (hp S) Po) : AW X M d bc bs pc L (.ref 38 :: st) (hp S) Po := k_get hd clX4 (j := 5) (by rw [hM]; exact fX11_229) rfl rfl k
theorem GX4_21 (hd : k_dc M pc (.getfield 21) 3 n) (hM : M.1.cls = RX4) (k : AW X M d bc bs n L (.ref 45 :: st) (hp S) Po) : AW X M d bc bs pc L (.ref 38 :: st) (hp S) Po := k_get hd clX4 (j := 6) (by rw [hM]; exact fX4_21) rfl rfl k
theorem GX11_232 (hd : k_dc M pc (.getfield 232) 3 n) (hM : M.1.cls = RX11) (k : AW X M d bc bs n L (.ref 45 :: st) (hp S) Po) : AW X M d bc bs pc L (.ref 38 :: st) (hp S) Po := k_get hd clX4 (j := 6) (by rw [hM]; exact fX11_232) rfl rfl k
theorem GX4_24 (hd : k_dc M pc (.getfield 24) 3 n) (hM : M.1.cls = RX4) (k : AW X M d bc bs n L (.int (S.1 1907) :: st) (hp S) Po) : AW X M d bc bs pc L (.ref 38 :: st) (hp S) Po := k_get hd clX4 (j := 7) (by rw [hM]; exact fX4_24) rfl rfl k
theorem GX11_247 (hd : k_dc M pc (.getfield 247) 3 n) (hM : M.1.cls = RX11) (k : AW X M d bc bs n L (.int (S.1 1907) :: st) (hp S) Po) : AW X M d bc bs pc L (.ref 38 :: st) (hp S) Po := k_get hd clX4 (j := 7) (by rw [hM]; exact fX11_247) rfl rfl k
theorem PX11_247 {z : Int32} (hd : k_dc M pc (.putfield 247) 3 n) (hM : M.1.cls = RX11) (k : AW X M d bc bs n L st (hp (si S 1907 z)) Po) : AW X M d bc bs pc L (.int z :: .ref 38 :: st) (hp S) Po := k_put hd clX4 (j := 7) (by rw [hM]; exact fX11_247) rfl rfl (Nat.le_of_ble_eq_true rfl) (fun _ => ⟨rfl, rfl⟩) rfl k
theorem GX4_28 (hd : k_dc M pc (.getfield 28) 3 n) (hM : M.1.cls = RX4) (k : AW X M d bc bs n L (.ref 48 :: st) (hp S) Po) : AW X M d bc bs pc L (.ref 38 :: st) (hp S) Po := k_get hd clX4 (j := 8) (by rw [hM]; exact fX4_28) rfl rfl k
theorem GX4_32 (hd : k_dc M pc (.getfield 32) 3 n) (hM : M.1.cls = RX4) (k : AW X M d bc bs n L (.ref 49 :: st) (hp S) Po) : AW X M d bc bs pc L (.ref 38 :: st) (hp S) Po := k_get hd clX4 (j := 9) (by rw [hM]; exact fX4_32) rfl rfl k
theorem GX4_35 (hd : k_dc M pc (.getfield 35) 3 n) (hM : M.1.cls = RX4) (k : AW X M d bc bs n L (.ref 50 :: st) (hp S) Po) : AW X M d bc bs pc L (.ref 38 :: st) (hp S) Po := k_get hd clX4 (j := 10) (by rw [hM]; exact fX4_35) rfl rfl k
theorem GX4_38 (hd : k_dc M pc (.getfield 38) 3 n) (hM : M.1.cls = RX4) (k : AW X M d bc bs n L (.ref 51 :: st) (hp S) Po) : AW X M d bc bs pc L (.ref 38 :: st) (hp S) Po := k_get hd clX4 (j := 11) (by rw [hM]; exact fX4_38) rfl rfl k
theorem GX11_67 (hd : k_dc M pc (.getfield 67) 3 n) (hM : M.1.cls = RX11) (k : AW X M d bc bs n L (.ref 16 :: st) (hp S) Po) : AW X M d bc bs pc L (.ref 0 :: st) (hp S) Po := k_get hd clX11 (j := 0) (by rw [hM]; exact fX11_67) rfl rfl k
theorem GX11_71 (hd : k_dc M pc (.getfield 71) 3 n) (hM : M.1.cls = RX11) (k : AW X M d bc bs n L (.ref 20 :: st) (hp S) Po) : AW X M d bc bs pc L (.ref 0 :: st) (hp S) Po := k_get hd clX11 (j := 1) (by rw [hM]; exact fX11_71) rfl rfl k
theorem GX11_75 (hd : k_dc M pc (.getfield 75) 3 n) (hM : M.1.cls = RX11) (k : AW X M d bc bs n L (.ref 24 :: st) (hp S) Po) : AW X M d bc bs pc L (.ref 0 :: st) (hp S) Po := k_get hd clX11 (j := 2) (by rw [hM]; exact fX11_75) rfl rfl k
theorem GX11_79 (hd : k_dc M pc (.getfield 79) 3 n) (hM : M.1.cls = RX11) (k : AW X M d bc bs n L (.ref 26 :: st) (hp S) Po) : AW X M d bc bs pc L (.ref 0 :: st) (hp S) Po := k_get hd clX11 (j := 3) (by rw [hM]; exact fX11_79) rfl rfl k
theorem GX11_92 (hd : k_dc M pc (.getfield 92) 3 n) (hM : M.1.cls = RX11) (k : AW X M d bc bs n L (.ref 33 :: st) (hp S) Po) : AW X M d bc bs pc L (.ref 0 :: st) (hp S) Po := k_get hd clX11 (j := 4) (by rw [hM]; exact fX11_92) rfl rfl k
theorem GX11_83 (hd : k_dc M pc (.getfield 83) 3 n) (hM : M.1.cls = RX11) (k : AW X M d bc bs n L (.ref 29 :: st) (hp S) Po) : AW X M d bc bs pc L (.ref 0 :: st) (hp S) Po := k_get hd clX11 (j := 5) (by rw [hM]; exact fX11_83) rfl rfl k
theorem GX11_101 (hd : k_dc M pc (.getfield 101) 3 n) (hM : M.1.cls = RX11) (k : AW X M d bc bs n L (.ref 38 :: st) (hp S) Po) : AW X M d bc bs pc L (.ref 0 :: st) (hp S) Po := k_get hd clX11 (j := 6) (by rw [hM]; exact fX11_101) rfl rfl k
theorem GX11_10 (hd : k_dc M pc (.getfield 10) 3 n) (hM : M.1.cls = RX11) (k : AW X M d bc bs n L (.ref 1 :: st) (hp S) Po) : AW X M d bc bs pc L (.ref 0 :: st) (hp S) Po := k_get hd clX11 (j := 7) (by rw [hM]; exact fX11_10) rfl rfl k
theorem GX11_19 (hd : k_dc M pc (.getfield 19) 3 n) (hM : M.1.cls = RX11) (k : AW X M d bc bs n L (.ref 4 :: st) (hp S) Po) : AW X M d bc bs pc L (.ref 0 :: st) (hp S) Po := k_get hd clX11 (j := 8) (by rw [hM]; exact fX11_19) rfl rfl k
theorem GX11_26 (hd : k_dc M pc (.getfield 26) 3 n) (hM : M.1.cls = RX11) (k : AW X M d bc bs n L (.ref 7 :: st) (hp S) Po) : AW X M d bc bs pc L (.ref 0 :: st) (hp S) Po := k_get hd clX11 (j := 9) (by rw [hM]; exact fX11_26) rfl rfl k
theorem GX11_30 (hd : k_dc M pc (.getfield 30) 3 n) (hM : M.1.cls = RX11) (k : AW X M d bc bs n L (.ref 12 :: st) (hp S) Po) : AW X M d bc bs pc L (.ref 0 :: st) (hp S) Po := k_get hd clX11 (j := 10) (by rw [hM]; exact fX11_30) rfl rfl k
theorem GX11_34 (hd : k_dc M pc (.getfield 34) 3 n) (hM : M.1.cls = RX11) (k : AW X M d bc bs n L (.int (S.1 11) :: st) (hp S) Po) : AW X M d bc bs pc L (.ref 0 :: st) (hp S) Po := k_get hd clX11 (j := 11) (by rw [hM]; exact fX11_34) rfl rfl k
theorem PX11_34 {z : Int32} (hd : k_dc M pc (.putfield 34) 3 n) (hM : M.1.cls = RX11) (k : AW X M d bc bs n L st (hp (si S 11 z)) Po) : AW X M d bc bs pc L (.int z :: .ref 0 :: st) (hp S) Po := k_put hd clX11 (j := 11) (by rw [hM]; exact fX11_34) rfl rfl (Nat.le_of_ble_eq_true rfl) (fun _ => ⟨rfl, rfl⟩) rfl k
theorem GX11_38 (hd : k_dc M pc (.getfield 38) 3 n) (hM : M.1.cls = RX11) (k : AW X M d bc bs n L (.ref 13 :: st) (hp S) Po) : AW X M d bc bs pc L (.ref 0 :: st) (hp S) Po := k_get hd clX11 (j := 12) (by rw [hM]; exact fX11_38) rfl rfl k
theorem GX11_41 (hd : k_dc M pc (.getfield 41) 3 n) (hM : M.1.cls = RX11) (k : AW X M d bc bs n L (.ref 14 :: st) (hp S) Po) : AW X M d bc bs pc L (.ref 0 :: st) (hp S) Po := k_get hd clX11 (j := 13) (by rw [hM]; exact fX11_41) rfl rfl k
theorem GX11_44 (hd : k_dc M pc (.getfield 44) 3 n) (hM : M.1.cls = RX11) (k : AW X M d bc bs n L (.int (S.1 14) :: st) (hp S) Po) : AW X M d bc bs pc L (.ref 0 :: st) (hp S) Po := k_get hd clX11 (j := 14) (by rw [hM]; exact fX11_44) rfl rfl k
theorem PX11_44 {z : Int32} (hd : k_dc M pc (.putfield 44) 3 n) (hM : M.1.cls = RX11) (k : AW X M d bc bs n L st (hp (si S 14 z)) Po) : AW X M d bc bs pc L (.int z :: .ref 0 :: st) (hp S) Po := k_put hd clX11 (j := 14) (by rw [hM]; exact fX11_44) rfl rfl (Nat.le_of_ble_eq_true rfl) (fun _ => ⟨rfl, rfl⟩) rfl k
theorem GX11_47 (hd : k_dc M pc (.getfield 47) 3 n) (hM : M.1.cls = RX11) (k : AW X M d bc bs n L (.ref 15 :: st) (hp S) Po) : AW X M d bc bs pc L (.ref 0 :: st) (hp S) Po := k_get hd clX11 (j := 15) (by rw [hM]; exact fX11_47) rfl rfl k
theorem GX12_7 (hd : k_dc M pc (.getfield 7) 3 n) (hM : M.1.cls = RX12) (k : AW X M d bc bs n L (.int (S.1 2600) :: st) (hp S) Po) : AW X M d bc bs pc L (.ref 52 :: st) (hp S) Po := k_get hd clX12 (j := 0) (by rw [hM]; exact fX12_7) rfl rfl k
theorem PX12_7 {z : Int32} (hd : k_dc M pc (.putfield 7) 3 n) (hM : M.1.cls = RX12) (k : AW X M d bc bs n L st (hp (si S 2600 z)) Po) : AW X M d bc bs pc L (.int z :: .ref 52 :: st) (hp S) Po := k_put hd clX12 (j := 0) (by rw [hM]; exact fX12_7) rfl rfl (Nat.le_of_ble_eq_true rfl) (fun _ => ⟨rfl, rfl⟩) rfl k
theorem GX12_13 (hd : k_dc M pc (.getfield 13) 3 n) (hM : M.1.cls = RX12) (k : AW X M d bc bs n L (.ref 53 :: st) (hp S) Po) : AW X M d bc bs pc L (.ref 52 :: st) (hp S) Po := k_get hd clX12 (j := 1) (by rw [hM]; exact fX12_13) rfl rfl k
theorem GX12_17 (hd : k_dc M pc (.getfield 17) 3 n) (hM : M.1.cls = RX12) (k : AW X M d bc bs n L (.ref 54 :: st) (hp S) Po) : AW X M d bc bs pc L (.ref 52 :: st) (hp S) Po := k_get hd clX12 (j := 2) (by rw [hM]; exact fX12_17) rfl rfl k
theorem GX12_20 (hd : k_dc M pc (.getfield 20) 3 n) (hM : M.1.cls = RX12) (k : AW X M d bc bs n L (.ref 55 :: st) (hp S) Po) : AW X M d bc bs pc L (.ref 52 :: st) (hp S) Po := k_get hd clX12 (j := 3) (by rw [hM]; exact fX12_20) rfl rfl k
theorem GX12_124 (hd : k_dc M pc (.getfield 124) 3 n) (hM : M.1.cls = RX12) (k : AW X M d bc bs n L (.int (S.1 2604) :: st) (hp S) Po) : AW X M d bc bs pc L (.ref 52 :: st) (hp S) Po := k_get hd clX12 (j := 4) (by rw [hM]; exact fX12_124) rfl rfl k
theorem PX12_124 {z : Int32} (hd : k_dc M pc (.putfield 124) 3 n) (hM : M.1.cls = RX12) (k : AW X M d bc bs n L st (hp (si S 2604 z)) Po) : AW X M d bc bs pc L (.int z :: .ref 52 :: st) (hp S) Po := k_put hd clX12 (j := 4) (by rw [hM]; exact fX12_124) rfl rfl (Nat.le_of_ble_eq_true rfl) (fun _ => ⟨rfl, rfl⟩) rfl k
theorem GX12_23 (hd : k_dc M pc (.getfield 23) 3 n) (hM : M.1.cls = RX12) (k : AW X M d bc bs n L (.ref 56 :: st) (hp S) Po) : AW X M d bc bs pc L (.ref 52 :: st) (hp S) Po := k_get hd clX12 (j := 5) (by rw [hM]; exact fX12_23) rfl rfl k
theorem GX12_26 (hd : k_dc M pc (.getfield 26) 3 n) (hM : M.1.cls = RX12) (k : AW X M d bc bs n L (.ref 57 :: st) (hp S) Po) : AW X M d bc bs pc L (.ref 52 :: st) (hp S) Po := k_get hd clX12 (j := 6) (by rw [hM]; exact fX12_26) rfl rfl k
theorem GX12_29 (hd : k_dc M pc (.getfield 29) 3 n) (hM : M.1.cls = RX12) (k : AW X M d bc bs n L (.ref 58 :: st) (hp S) Po) : AW X M d bc bs pc L (.ref 52 :: st) (hp S) Po := k_get hd clX12 (j := 7) (by rw [hM]; exact fX12_29) rfl rfl k
theorem GX12_32 (hd : k_dc M pc (.getfield 32) 3 n) (hM : M.1.cls = RX12) (k : AW X M d bc bs n L (.ref 59 :: st) (hp S) Po) : AW X M d bc bs pc L (.ref 52 :: st) (hp S) Po := k_get hd clX12 (j := 8) (by rw [hM]; exact fX12_32) rfl rfl k
theorem GX12_35 (hd : k_dc M pc (.getfield 35) 3 n) (hM : M.1.cls = RX12) (k : AW X M d bc bs n L (.ref 60 :: st) (hp S) Po) : AW X M d bc bs pc L (.ref 52 :: st) (hp S) Po := k_get hd clX12 (j := 9) (by rw [hM]; exact fX12_35) rfl rfl k
theorem GX12_38 (hd : k_dc M pc (.getfield 38) 3 n) (hM : M.1.cls = RX12) (k : AW X M d bc bs n L (.ref 61 :: st) (hp S) Po) : AW X M d bc bs pc L (.ref 52 :: st) (hp S) Po := k_get hd clX12 (j := 10) (by rw [hM]; exact fX12_38) rfl rfl k
theorem GX12_183 (hd : k_dc M pc (.getfield 183) 3 n) (hM : M.1.cls = RX12) (k : AW X M d bc bs n L (.int (S.1 2611) :: st) (hp S) Po) : AW X M d bc bs pc L (.ref 52 :: st) (hp S) Po := k_get hd clX12 (j := 11) (by rw [hM]; exact fX12_183) rfl rfl k
theorem PX12_183 {z : Int32} (hd : k_dc M pc (.putfield 183) 3 n) (hM : M.1.cls = RX12) (k : AW X M d bc bs n L st (hp (si S 2611 z)) Po) : AW X M d bc bs pc L (.int z :: .ref 52 :: st) (hp S) Po := k_put hd clX12 (j := 11) (by rw [hM]; exact fX12_183) rfl rfl (Nat.le_of_ble_eq_true rfl) (fun _ => ⟨rfl, rfl⟩) rfl k
theorem GX12_41 (hd : k_dc M pc (.getfield 41) 3 n) (hM : M.1.cls = RX12) (k : AW X M d bc bs n L (.ref 62 :: st) (hp S) Po) : AW X M d bc bs pc L (.ref 52 :: st) (hp S) Po := k_get hd clX12 (j := 12) (by rw [hM]; exact fX12_41) rfl rfl k
theorem GX12_44 (hd : k_dc M pc (.getfield 44) 3 n) (hM : M.1.cls = RX12) (k : AW X M d bc bs n L (.ref 63 :: st) (hp S) Po) : AW X M d bc bs pc L (.ref 52 :: st) (hp S) Po := k_get hd clX12 (j := 13) (by rw [hM]; exact fX12_44) rfl rfl k
theorem GX12_47 (hd : k_dc M pc (.getfield 47) 3 n) (hM : M.1.cls = RX12) (k : AW X M d bc bs n L (.ref 64 :: st) (hp S) Po) : AW X M d bc bs pc L (.ref 52 :: st) (hp S) Po := k_get hd clX12 (j := 14) (by rw [hM]; exact fX12_47) rfl rfl k
theorem GX12_203 (hd : k_dc M pc (.getfield 203) 3 n) (hM : M.1.cls = RX12) (k : AW X M d bc bs n L (.int (S.1 2615) :: st) (hp S) Po) : AW X M d bc bs pc L (.ref 52 :: st) (hp S) Po := k_get hd clX12 (j := 15) (by rw [hM]; exact fX12_203) rfl rfl k
theorem PX12_203 {z : Int32} (hd : k_dc M pc (.putfield 203) 3 n) (hM : M.1.cls = RX12) (k : AW X M d bc bs n L st (hp (si S 2615 z)) Po) : AW X M d bc bs pc L (.int z :: .ref 52 :: st) (hp S) Po := k_put hd clX12 (j := 15) (by rw [hM]; exact fX12_203) rfl rfl (Nat.le_of_ble_eq_true rfl) (fun _ => ⟨rfl, rfl⟩) rfl k
theorem GX12_50 (hd : k_dc M pc (.getfield 50) 3 n) (hM : M.1.cls = RX12) (k : AW X M d bc bs n L (.ref 65 :: st) (hp S) Po) : AW X M d bc bs pc L (.ref 52 :: st) (hp S) Po := k_get hd clX12 (j := 16) (by rw [hM]; exact fX12_50) rfl rfl k
theorem GX12_53 (hd : k_dc M pc (.getfield 53) 3 n) (hM : M.1.cls = RX12) (k : AW X M d bc bs n L (.ref 66 :: st) (hp S) Po) : AW X M d bc bs pc L (.ref 52 :: st) (hp S) Po := k_get hd clX12 (j := 17) (by rw [hM]; exact fX12_53) rfl rfl k
theorem GX12_56 (hd : k_dc M pc (.getfield 56) 3 n) (hM : M.1.cls = RX12) (k : AW X M d bc bs n L (.int (S.1 2618) :: st) (hp S) Po) : AW X M d bc bs pc L (.ref 52 :: st) (hp S) Po := k_get hd clX12 (j := 18) (by rw [hM]; exact fX12_56) rfl rfl k
theorem PX12_56 {z : Int32} (hd : k_dc M pc (.putfield 56) 3 n) (hM : M.1.cls = RX12) (k : AW X M d bc bs n L st (hp (si S 2618 z)) Po) : AW X M d bc bs pc L (.int z :: .ref 52 :: st) (hp S) Po := k_put hd clX12 (j := 18) (by rw [hM]; exact fX12_56) rfl rfl (Nat.le_of_ble_eq_true rfl) (fun _ => ⟨rfl, rfl⟩) rfl k
theorem GX12_294 (hd : k_dc M pc (.getfield 294) 3 n) (hM : M.1.cls = RX12) (k : AW X M d bc bs n L (.int (S.1 2619) :: st) (hp S) Po) : AW X M d bc bs pc L (.ref 52 :: st) (hp S) Po := k_get hd clX12 (j := 19) (by rw [hM]; exact fX12_294) rfl rfl k
theorem PX12_294 {z : Int32} (hd : k_dc M pc (.putfield 294) 3 n) (hM : M.1.cls = RX12) (k : AW X M d bc bs n L st (hp (si S 2619 z)) Po) : AW X M d bc bs pc L (.int z :: .ref 52 :: st) (hp S) Po := k_put hd clX12 (j := 19) (by rw [hM]; exact fX12_294) rfl rfl (Nat.le_of_ble_eq_true rfl) (fun _ => ⟨rfl, rfl⟩) rfl k
theorem GX12_59 (hd : k_dc M pc (.getfield 59) 3 n) (hM : M.1.cls = RX12) (k : AW X M d bc bs n L (.ref 67 :: st) (hp S) Po) : AW X M d bc bs pc L (.ref 52 :: st) (hp S) Po := k_get hd clX12 (j := 20) (by rw [hM]; exact fX12_59) rfl rfl k
theorem GX12_62 (hd : k_dc M pc (.getfield 62) 3 n) (hM : M.1.cls = RX12) (k : AW X M d bc bs n L (.ref 68 :: st) (hp S) Po) : AW X M d bc bs pc L (.ref 52 :: st) (hp S) Po := k_get hd clX12 (j := 21) (by rw [hM]; exact fX12_62) rfl rfl k
theorem GX12_65 (hd : k_dc M pc (.getfield 65) 3 n) (hM : M.1.cls = RX12) (k : AW X M d bc bs n L (.ref 69 :: st) (hp S) Po) : AW X M d bc bs pc L (.ref 52 :: st) (hp S) Po := k_get hd clX12 (j := 22) (by rw [hM]; exact fX12_65) rfl rfl k
theorem GX12_68 (hd : k_dc M pc (.getfield 68) 3 n) (hM : M.1.cls = RX12) (k : AW X M d bc bs n L (.ref 70 :: st) (hp S) Po) : AW X M d bc bs pc L (.ref 52 :: st) (hp S) Po := k_get hd clX12 (j := 23) (by rw [hM]; exact fX12_68) rfl rfl k
theorem GX12_71 (hd : k_dc M pc (.getfield 71) 3 n) (hM : M.1.cls = RX12) (k : AW X M d bc bs n L (.ref 71 :: st) (hp S) Po) : AW X M d bc bs pc L (.ref 52 :: st) (hp S) Po := k_get hd clX12 (j := 24) (by rw [hM]; exact fX12_71) rfl rfl k
theorem GX12_141 (hd : k_dc M pc (.getfield 141) 3 n) (hM : M.1.cls = RX12) (k : AW X M d bc bs n L (.int (S.1 2625) :: st) (hp S) Po) : AW X M d bc bs pc L (.ref 52 :: st) (hp S) Po := k_get hd clX12 (j := 25) (by rw [hM]; exact fX12_141) rfl rfl k
theorem PX12_141 {z : Int32} (hd : k_dc M pc (.putfield 141) 3 n) (hM : M.1.cls = RX12) (k : AW X M d bc bs n L st (hp (si S 2625 z)) Po) : AW X M d bc bs pc L (.int z :: .ref 52 :: st) (hp S) Po := k_put hd clX12 (j := 25) (by rw [hM]; exact fX12_141) rfl rfl (Nat.le_of_ble_eq_true rfl) (fun _ => ⟨rfl, rfl⟩) rfl k
theorem GX12_138 (hd : k_dc M pc (.getfield 138) 3 n) (hM : M.1.cls = RX12) (k : AW X M d bc bs n L (.int (S.1 2626) :: st) (hp S) Po) : AW X M d bc bs pc L (.ref 52 :: st) (hp S) Po := k_get hd clX12 (j := 26) (by rw [hM]; exact fX12_138) rfl rfl k
theorem PX12_138 {z : Int32} (hd : k_dc M pc (.putfield 138) 3 n) (hM : M.1.cls = RX12) (k : AW X M d bc bs n L st (hp (si S 2626 z)) Po) : AW X M d bc bs pc L (.int z :: .ref 52 :: st) (hp S) Po := k_put hd clX12 (j := 26) (by rw [hM]; exact fX12_138) rfl rfl (Nat.le_of_ble_eq_true rfl) (fun _ => ⟨rfl, rfl⟩) rfl k
theorem GX12_302 (hd : k_dc M pc (.getfield 302) 3 n) (hM : M.1.cls = RX12) (k : AW X M d bc bs n L (.int (S.1 2627) :: st) (hp S) Po) : AW X M d bc bs pc L (.ref 52 :: st) (hp S) Po := k_get hd clX12 (j := 27) (by rw [hM]; exact fX12_302) rfl rfl k
theorem PX12_302 {z : Int32} (hd : k_dc M pc (.putfield 302) 3 n) (hM : M.1.cls = RX12) (k : AW X M d bc bs n L st (hp (si S 2627 z)) Po) : AW X M d bc bs pc L (.int z :: .ref 52 :: st) (hp S) Po := k_put hd clX12 (j := 27) (by rw [hM]; exact fX12_302) rfl rfl (Nat.le_of_ble_eq_true rfl) (fun _ => ⟨rfl, rfl⟩) rfl k
theorem GX12_74 (hd : k_dc M pc (.getfield 74) 3 n) (hM : M.1.cls = RX12) (k : AW X M d bc bs n L (.ref 72 :: st) (hp S) Po) : AW X M d bc bs pc L (.ref 52 :: st) (hp S) Po := k_get hd clX12 (j := 28) (by rw [hM]; exact fX12_74) rfl rfl k
theorem GX12_305 (hd : k_dc M pc (.getfield 305) 3 n) (hM : M.1.cls = RX12) (k : AW X M d bc bs n L (.int (S.1 2629) :: st) (hp S) Po) : AW X M d bc bs pc L (.ref 52 :: st) (hp S) Po := k_get hd clX12 (j := 29) (by rw [hM]; exact fX12_305) rfl rfl k
theorem PX12_305 {z : Int32} (hd : k_dc M pc (.putfield 305) 3 n) (hM : M.1.cls = RX12) (k : AW X M d bc bs n L st (hp (si S 2629 z)) Po) : AW X M d bc bs pc L (.int z :: .ref 52 :: st) (hp S) Po := k_put hd clX12 (j := 29) (by rw [hM]; exact fX12_305) rfl rfl (Nat.le_of_ble_eq_true rfl) (fun _ => ⟨rfl, rfl⟩) rfl k
theorem GX12_77 (hd : k_dc M pc (.getfield 77) 3 n) (hM : M.1.cls = RX12) (k : AW X M d bc bs n L (.ref 73 :: st) (hp S) Po) : AW X M d bc bs pc L (.ref 52 :: st) (hp S) Po := k_get hd clX12 (j := 30) (by rw [hM]; exact fX12_77) rfl rfl k
theorem GX12_80 (hd : k_dc M pc (.getfield 80) 3 n) (hM : M.1.cls = RX12) (k : AW X M d bc bs n L (.ref 74 :: st) (hp S) Po) : AW X M d bc bs pc L (.ref 52 :: st) (hp S) Po := k_get hd clX12 (j := 31) (by rw [hM]; exact fX12_80) rfl rfl k
theorem GX12_83 (hd : k_dc M pc (.getfield 83) 3 n) (hM : M.1.cls = RX12) (k : AW X M d bc bs n L (.ref 75 :: st) (hp S) Po) : AW X M d bc bs pc L (.ref 52 :: st) (hp S) Po := k_get hd clX12 (j := 32) (by rw [hM]; exact fX12_83) rfl rfl k
theorem GX12_86 (hd : k_dc M pc (.getfield 86) 3 n) (hM : M.1.cls = RX12) (k : AW X M d bc bs n L (.ref 76 :: st) (hp S) Po) : AW X M d bc bs pc L (.ref 52 :: st) (hp S) Po := k_get hd clX12 (j := 33) (by rw [hM]; exact fX12_86) rfl rfl k
theorem GX12_89 (hd : k_dc M pc (.getfield 89) 3 n) (hM : M.1.cls = RX12) (k : AW X M d bc bs n L (.ref 77 :: st) (hp S) Po) : AW X M d bc bs pc L (.ref 52 :: st) (hp S) Po := k_get hd clX12 (j := 34) (by rw [hM]; exact fX12_89) rfl rfl k
theorem GX12_93 (hd : k_dc M pc (.getfield 93) 3 n) (hM : M.1.cls = RX12) (k : AW X M d bc bs n L (.ref 78 :: st) (hp S) Po) : AW X M d bc bs pc L (.ref 52 :: st) (hp S) Po := k_get hd clX12 (j := 35) (by rw [hM]; exact fX12_93) rfl rfl k
theorem GX12_96 (hd : k_dc M pc (.getfield 96) 3 n) (hM : M.1.cls = RX12) (k : AW X M d bc bs n L (.ref 79 :: st) (hp S) Po) : AW X M d bc bs pc L (.ref 52 :: st) (hp S) Po := k_get hd clX12 (j := 36) (by rw [hM]; exact fX12_96) rfl rfl k
theorem GX12_99 (hd : k_dc M pc (.getfield 99) 3 n) (hM : M.1.cls = RX12) (k : AW X M d bc bs n L (.ref 80 :: st) (hp S) Po) : AW X M d bc bs pc L (.ref 52 :: st) (hp S) Po := k_get hd clX12 (j := 37) (by rw [hM]; exact fX12_99) rfl rfl k
theorem GX12_206 (hd : k_dc M pc (.getfield 206) 3 n) (hM : M.1.cls = RX12) (k : AW X M d bc bs n L (.int (S.1 2638) :: st) (hp S) Po) : AW X M d bc bs pc L (.ref 52 :: st) (hp S) Po := k_get hd clX12 (j := 38) (by rw [hM]; exact fX12_206) rfl rfl k
theorem PX12_206 {z : Int32} (hd : k_dc M pc (.putfield 206) 3 n) (hM : M.1.cls = RX12) (k : AW X M d bc bs n L st (hp (si S 2638 z)) Po) : AW X M d bc bs pc L (.int z :: .ref 52 :: st) (hp S) Po := k_put hd clX12 (j := 38) (by rw [hM]; exact fX12_206) rfl rfl (Nat.le_of_ble_eq_true rfl) (fun _ => ⟨rfl, rfl⟩) rfl k
theorem GX12_229 (hd : k_dc M pc (.getfield 229) 3 n) (hM : M.1.cls = RX12) (k : AW X M d bc bs n L (.int (S.1 2639) :: st) (hp S) Po) : AW X M d bc bs pc L (.ref 52 :: st) (hp S) Po := k_get hd clX12 (j := 39) (by rw [hM]; exact fX12_229) rfl rfl k
theorem PX12_229 {z : Int32} (hd : k_dc M pc (.putfield 229) 3 n) (hM : M.1.cls = RX12) (k : AW X M d bc bs n L st (hp (si S 2639 z)) Po) : AW X M d bc bs pc L (.int z :: .ref 52 :: st) (hp S) Po := k_put hd clX12 (j := 39) (by rw [hM]; exact fX12_229) rfl rfl (Nat.le_of_ble_eq_true rfl) (fun _ => ⟨rfl, rfl⟩) rfl k
theorem GX12_209 (hd : k_dc M pc (.getfield 209) 3 n) (hM : M.1.cls = RX12) (k : AW X M d bc bs n L (.int (S.1 2640) :: st) (hp S) Po) : AW X M d bc bs pc L (.ref 52 :: st) (hp S) Po := k_get hd clX12 (j := 40) (by rw [hM]; exact fX12_209) rfl rfl k
theorem PX12_209 {z : Int32} (hd : k_dc M pc (.putfield 209) 3 n) (hM : M.1.cls = RX12) (k : AW X M d bc bs n L st (hp (si S 2640 z)) Po) : AW X M d bc bs pc L (.int z :: .ref 52 :: st) (hp S) Po := k_put hd clX12 (j := 40) (by rw [hM]; exact fX12_209) rfl rfl (Nat.le_of_ble_eq_true rfl) (fun _ => ⟨rfl, rfl⟩) rfl k
theorem GX12_212 (hd : k_dc M pc (.getfield 212) 3 n) (hM : M.1.cls = RX12) (k : AW X M d bc bs n L (.int (S.1 2641) :: st) (hp S) Po) : AW X M d bc bs pc L (.ref 52 :: st) (hp S) Po := k_get hd clX12 (j := 41) (by rw [hM]; exact fX12_212) rfl rfl k
theorem PX12_212 {z : Int32} (hd : k_dc M pc (.putfield 212) 3 n) (hM : M.1.cls = RX12) (k : AW X M d bc bs n L st (hp (si S 2641 z)) Po) : AW X M d bc bs pc L (.int z :: .ref 52 :: st) (hp S) Po := k_put hd clX12 (j := 41) (by rw [hM]; exact fX12_212) rfl rfl (Nat.le_of_ble_eq_true rfl) (fun _ => ⟨rfl, rfl⟩) rfl k
theorem GX12_102 (hd : k_dc M pc (.getfield 102) 3 n) (hM : M.1.cls = RX12) (k : AW X M d bc bs n L (.ref 81 :: st) (hp S) Po) : AW X M d bc bs pc L (.ref 52 :: st) (hp S) Po := k_get hd clX12 (j := 42) (by rw [hM]; exact fX12_102) rfl rfl k
theorem GX12_105 (hd : k_dc M pc (.getfield 105) 3 n) (hM : M.1.cls = RX12) (k : AW X M d bc bs n L (.ref 82 :: st) (hp S) Po) : AW X M d bc bs pc L (.ref 52 :: st) (hp S) Po := k_get hd clX12 (j := 43) (by rw [hM]; exact fX12_105) rfl rfl k
theorem GX12_108 (hd : k_dc M pc (.getfield 108) 3 n) (hM : M.1.cls = RX12) (k : AW X M d bc bs n L (.ref 83 :: st) (hp S) Po) : AW X M d bc bs pc L (.ref 52 :: st) (hp S) Po := k_get hd clX12 (j := 44) (by rw [hM]; exact fX12_108) rfl rfl k
theorem GX12_111 (hd : k_dc M pc (.getfield 111) 3 n) (hM : M.1.cls = RX12) (k : AW X M d bc bs n L (.ref 84 :: st) (hp S) Po) : AW X M d bc bs pc L (.ref 52 :: st) (hp S) Po := k_get hd clX12 (j := 45) (by rw [hM]; exact fX12_111) rfl rfl k
theorem GX12_114 (hd : k_dc M pc (.getfield 114) 3 n) (hM : M.1.cls = RX12) (k : AW X M d bc bs n L (.ref 85 :: st) (hp S) Po) : AW X M d bc bs pc L (.ref 52 :: st) (hp S) Po := k_get hd clX12 (j := 46) (by rw [hM]; exact fX12_114) rfl rfl k
theorem GX12_317 (hd : k_dc M pc (.getfield 317) 3 n) (hM : M.1.cls = RX12) (k : AW X M d bc bs n L (.int (S.1 2647) :: st) (hp S) Po) : AW X M d bc bs pc L (.ref 52 :: st) (hp S) Po := k_get hd clX12 (j := 47) (by rw [hM]; exact fX12_317) rfl rfl k
theorem PX12_317 {z : Int32} (hd : k_dc M pc (.putfield 317) 3 n) (hM : M.1.cls = RX12) (k : AW X M d bc bs n L st (hp (si S 2647 z)) Po) : AW X M d bc bs pc L (.int z :: .ref 52 :: st) (hp S) Po := k_put hd clX12 (j := 47) (by rw [hM]; exact fX12_317) rfl rfl (Nat.le_of_ble_eq_true rfl) (fun _ => ⟨rfl, rfl⟩) rfl k
theorem GX12_117 (hd : k_dc M pc (.getfield 117) 3 n) (hM : M.1.cls = RX12) (k : AW X M d bc bs n L (.ref 86 :: st) (hp S) Po) : AW X M d bc bs pc L (.ref 52 :: st) (hp S) Po := k_get hd clX12 (j := 48) (by rw [hM]; exact fX12_117) rfl rfl k
theorem ar2 (S : k_S) : (hp S)[2]? = some (.inl (240, .inl (S.2.1 2))) := rfl
theorem as2 (S : k_S) (f : Nat → Int32) : (hp S).set 2 (.inl (240, .inl f)) = hp (sa S 2 f) := rfl
theorem ar3 (S : k_S) : (hp S)[3]? = some (.inl (120, .inl (S.2.1 3))) := rfl
theorem as3 (S : k_S) (f : Nat → Int32) : (hp S).set 3 (.inl (120, .inl f)) = hp (sa S 3 f) := rfl
theorem ar5 (S : k_S) : (hp S)[5]? = some (.inl (50, .inl (S.2.1 5))) := rfl
theorem as5 (S : k_S) (f : Nat → Int32) : (hp S).set 5 (.inl (50, .inl f)) = hp (sa S 5 f) := rfl
theorem ar6 (S : k_S) : (hp S)[6]? = some (.inl (24, .inl (S.2.1 6))) := rfl
theorem as6 (S : k_S) (f : Nat → Int32) : (hp S).set 6 (.inl (24, .inl f)) = hp (sa S 6 f) := rfl
theorem ar8 (S : k_S) : (hp S)[8]? = some (.inl (6, .inl (S.2.1 8))) := rfl
theorem as8 (S : k_S) (f : Nat → Int32) : (hp S).set 8 (.inl (6, .inl f)) = hp (sa S 8 f) := rfl
theorem ar9 (S : k_S) : (hp S)[9]? = some (.inl (6, .inl (S.2.1 9))) := rfl
theorem as9 (S : k_S) (f : Nat → Int32) : (hp S).set 9 (.inl (6, .inl f)) = hp (sa S 9 f) := rfl
theorem ar10 (S : k_S) : (hp S)[10]? = some (.inl (360, .inr (S.2.2 10))) := rfl
theorem as10 (S : k_S) (f : Nat → Int64) : (hp S).set 10 (.inl (360, .inr f)) = hp (sj S 10 f) := rfl
theorem ar11 (S : k_S) : (hp S)[11]? = some (.inl (60, .inr (S.2.2 11))) := rfl
theorem as11 (S : k_S) (f : Nat → Int64) : (hp S).set 11 (.inl (60, .inr f)) = hp (sj S 11 f) := rfl
theorem ar12 (S : k_S) : (hp S)[12]? = some (.inl (120, .inl (S.2.1 12))) := rfl
theorem as12 (S : k_S) (f : Nat → Int32) : (hp S).set 12 (.inl (120, .inl f)) = hp (sa S 12 f) := rfl
theorem ar13 (S : k_S) : (hp S)[13]? = some (.inl (10, .inl (S.2.1 13))) := rfl
theorem as13 (S : k_S) (f : Nat → Int32) : (hp S).set 13 (.inl (10, .inl f)) = hp (sa S 13 f) := rfl
theorem ar14 (S : k_S) : (hp S)[14]? = some (.inl (10, .inl (S.2.1 14))) := rfl
theorem as14 (S : k_S) (f : Nat → Int32) : (hp S).set 14 (.inl (10, .inl f)) = hp (sa S 14 f) := rfl
theorem ar15 (S : k_S) : (hp S)[15]? = some (.inl (5, .inl (S.2.1 15))) := rfl
theorem as15 (S : k_S) (f : Nat → Int32) : (hp S).set 15 (.inl (5, .inl f)) = hp (sa S 15 f) := rfl
theorem ar17 (S : k_S) : (hp S)[17]? = some (.inl (6, .inl (S.2.1 17))) := rfl
theorem as17 (S : k_S) (f : Nat → Int32) : (hp S).set 17 (.inl (6, .inl f)) = hp (sa S 17 f) := rfl
theorem ar18 (S : k_S) : (hp S)[18]? = some (.inl (6, .inl (S.2.1 18))) := rfl
theorem as18 (S : k_S) (f : Nat → Int32) : (hp S).set 18 (.inl (6, .inl f)) = hp (sa S 18 f) := rfl
theorem ar19 (S : k_S) : (hp S)[19]? = some (.inl (6, .inl (S.2.1 19))) := rfl
theorem as19 (S : k_S) (f : Nat → Int32) : (hp S).set 19 (.inl (6, .inl f)) = hp (sa S 19 f) := rfl
theorem ar21 (S : k_S) : (hp S)[21]? = some (.inl (5, .inl (S.2.1 21))) := rfl
theorem as21 (S : k_S) (f : Nat → Int32) : (hp S).set 21 (.inl (5, .inl f)) = hp (sa S 21 f) := rfl
theorem ar22 (S : k_S) : (hp S)[22]? = some (.inl (600, .inl (S.2.1 22))) := rfl
theorem as22 (S : k_S) (f : Nat → Int32) : (hp S).set 22 (.inl (600, .inl f)) = hp (sa S 22 f) := rfl
theorem ar23 (S : k_S) : (hp S)[23]? = some (.inl (600, .inl (S.2.1 23))) := rfl
theorem as23 (S : k_S) (f : Nat → Int32) : (hp S).set 23 (.inl (600, .inl f)) = hp (sa S 23 f) := rfl
theorem ar25 (S : k_S) : (hp S)[25]? = some (.inl (120, .inl (S.2.1 25))) := rfl
theorem as25 (S : k_S) (f : Nat → Int32) : (hp S).set 25 (.inl (120, .inl f)) = hp (sa S 25 f) := rfl
theorem ar27 (S : k_S) : (hp S)[27]? = some (.inl (4, .inl (S.2.1 27))) := rfl
theorem as27 (S : k_S) (f : Nat → Int32) : (hp S).set 27 (.inl (4, .inl f)) = hp (sa S 27 f) := rfl
theorem ar28 (S : k_S) : (hp S)[28]? = some (.inl (4, .inl (S.2.1 28))) := rfl
theorem as28 (S : k_S) (f : Nat → Int32) : (hp S).set 28 (.inl (4, .inl f)) = hp (sa S 28 f) := rfl
theorem ar30 (S : k_S) : (hp S)[30]? = some (.inl (120, .inl (S.2.1 30))) := rfl
theorem as30 (S : k_S) (f : Nat → Int32) : (hp S).set 30 (.inl (120, .inl f)) = hp (sa S 30 f) := rfl
theorem ar31 (S : k_S) : (hp S)[31]? = some (.inl (120, .inl (S.2.1 31))) := rfl
theorem as31 (S : k_S) (f : Nat → Int32) : (hp S).set 31 (.inl (120, .inl f)) = hp (sa S 31 f) := rfl
theorem ar32 (S : k_S) : (hp S)[32]? = some (.inl (120, .inl (S.2.1 32))) := rfl
theorem as32 (S : k_S) (f : Nat → Int32) : (hp S).set 32 (.inl (120, .inl f)) = hp (sa S 32 f) := rfl
theorem ar34 (S : k_S) : (hp S)[34]? = some (.inl (40, .inl (S.2.1 34))) := rfl
theorem as34 (S : k_S) (f : Nat → Int32) : (hp S).set 34 (.inl (40, .inl f)) = hp (sa S 34 f) := rfl
theorem ar35 (S : k_S) : (hp S)[35]? = some (.inl (40, .inl (S.2.1 35))) := rfl
theorem as35 (S : k_S) (f : Nat → Int32) : (hp S).set 35 (.inl (40, .inl f)) = hp (sa S 35 f) := rfl
theorem ar36 (S : k_S) : (hp S)[36]? = some (.inl (40, .inl (S.2.1 36))) := rfl
theorem as36 (S : k_S) (f : Nat → Int32) : (hp S).set 36 (.inl (40, .inl f)) = hp (sa S 36 f) := rfl
theorem ar37 (S : k_S) : (hp S)[37]? = some (.inl (40, .inl (S.2.1 37))) := rfl
theorem as37 (S : k_S) (f : Nat → Int32) : (hp S).set 37 (.inl (40, .inl f)) = hp (sa S 37 f) := rfl
theorem ar40 (S : k_S) : (hp S)[40]? = some (.inl (240, .inl (S.2.1 40))) := rfl
theorem as40 (S : k_S) (f : Nat → Int32) : (hp S).set 40 (.inl (240, .inl f)) = hp (sa S 40 f) := rfl
theorem ar41 (S : k_S) : (hp S)[41]? = some (.inl (120, .inl (S.2.1 41))) := rfl
theorem as41 (S : k_S) (f : Nat → Int32) : (hp S).set 41 (.inl (120, .inl f)) = hp (sa S 41 f) := rfl
theorem ar43 (S : k_S) : (hp S)[43]? = some (.inl (240, .inl (S.2.1 43))) := rfl
theorem as43 (S : k_S) (f : Nat → Int32) : (hp S).set 43 (.inl (240, .inl f)) = hp (sa S 43 f) := rfl
theorem ar44 (S : k_S) : (hp S)[44]? = some (.inl (120, .inl (S.2.1 44))) := rfl
theorem as44 (S : k_S) (f : Nat → Int32) : (hp S).set 44 (.inl (120, .inl f)) = hp (sa S 44 f) := rfl
theorem ar46 (S : k_S) : (hp S)[46]? = some (.inl (240, .inl (S.2.1 46))) := rfl
theorem as46 (S : k_S) (f : Nat → Int32) : (hp S).set 46 (.inl (240, .inl f)) = hp (sa S 46 f) := rfl
theorem ar47 (S : k_S) : (hp S)[47]? = some (.inl (120, .inl (S.2.1 47))) := rfl
theorem as47 (S : k_S) (f : Nat → Int32) : (hp S).set 47 (.inl (120, .inl f)) = hp (sa S 47 f) := rfl
theorem ar48 (S : k_S) : (hp S)[48]? = some (.inl (7, .inl (S.2.1 48))) := rfl
theorem as48 (S : k_S) (f : Nat → Int32) : (hp S).set 48 (.inl (7, .inl f)) = hp (sa S 48 f) := rfl
theorem ar49 (S : k_S) : (hp S)[49]? = some (.inl (120, .inl (S.2.1 49))) := rfl
theorem as49 (S : k_S) (f : Nat → Int32) : (hp S).set 49 (.inl (120, .inl f)) = hp (sa S 49 f) := rfl
theorem ar50 (S : k_S) : (hp S)[50]? = some (.inl (121, .inl (S.2.1 50))) := rfl
theorem as50 (S : k_S) (f : Nat → Int32) : (hp S).set 50 (.inl (121, .inl f)) = hp (sa S 50 f) := rfl
theorem ar51 (S : k_S) : (hp S)[51]? = some (.inl (120, .inl (S.2.1 51))) := rfl
theorem as51 (S : k_S) (f : Nat → Int32) : (hp S).set 51 (.inl (120, .inl f)) = hp (sa S 51 f) := rfl
theorem ar53 (S : k_S) : (hp S)[53]? = some (.inl (6, .inl (S.2.1 53))) := rfl
theorem as53 (S : k_S) (f : Nat → Int32) : (hp S).set 53 (.inl (6, .inl f)) = hp (sa S 53 f) := rfl
theorem ar54 (S : k_S) : (hp S)[54]? = some (.inl (6, .inl (S.2.1 54))) := rfl
theorem as54 (S : k_S) (f : Nat → Int32) : (hp S).set 54 (.inl (6, .inl f)) = hp (sa S 54 f) := rfl
theorem ar55 (S : k_S) : (hp S)[55]? = some (.inl (6, .inl (S.2.1 55))) := rfl
theorem as55 (S : k_S) (f : Nat → Int32) : (hp S).set 55 (.inl (6, .inl f)) = hp (sa S 55 f) := rfl
theorem ar56 (S : k_S) : (hp S)[56]? = some (.inl (5, .inl (S.2.1 56))) := rfl
theorem as56 (S : k_S) (f : Nat → Int32) : (hp S).set 56 (.inl (5, .inl f)) = hp (sa S 56 f) := rfl
theorem ar57 (S : k_S) : (hp S)[57]? = some (.inl (5, .inl (S.2.1 57))) := rfl
theorem as57 (S : k_S) (f : Nat → Int32) : (hp S).set 57 (.inl (5, .inl f)) = hp (sa S 57 f) := rfl
theorem ar58 (S : k_S) : (hp S)[58]? = some (.inl (5, .inl (S.2.1 58))) := rfl
theorem as58 (S : k_S) (f : Nat → Int32) : (hp S).set 58 (.inl (5, .inl f)) = hp (sa S 58 f) := rfl
theorem ar59 (S : k_S) : (hp S)[59]? = some (.inl (600, .inl (S.2.1 59))) := rfl
theorem as59 (S : k_S) (f : Nat → Int32) : (hp S).set 59 (.inl (600, .inl f)) = hp (sa S 59 f) := rfl
theorem ar60 (S : k_S) : (hp S)[60]? = some (.inl (600, .inl (S.2.1 60))) := rfl
theorem as60 (S : k_S) (f : Nat → Int32) : (hp S).set 60 (.inl (600, .inl f)) = hp (sa S 60 f) := rfl
theorem ar61 (S : k_S) : (hp S)[61]? = some (.inl (120, .inl (S.2.1 61))) := rfl
theorem as61 (S : k_S) (f : Nat → Int32) : (hp S).set 61 (.inl (120, .inl f)) = hp (sa S 61 f) := rfl
theorem ar62 (S : k_S) : (hp S)[62]? = some (.inl (4, .inl (S.2.1 62))) := rfl
theorem as62 (S : k_S) (f : Nat → Int32) : (hp S).set 62 (.inl (4, .inl f)) = hp (sa S 62 f) := rfl
theorem ar63 (S : k_S) : (hp S)[63]? = some (.inl (4, .inl (S.2.1 63))) := rfl
theorem as63 (S : k_S) (f : Nat → Int32) : (hp S).set 63 (.inl (4, .inl f)) = hp (sa S 63 f) := rfl
theorem ar64 (S : k_S) : (hp S)[64]? = some (.inl (120, .inl (S.2.1 64))) := rfl
theorem as64 (S : k_S) (f : Nat → Int32) : (hp S).set 64 (.inl (120, .inl f)) = hp (sa S 64 f) := rfl
theorem ar65 (S : k_S) : (hp S)[65]? = some (.inl (800, .inl (S.2.1 65))) := rfl
theorem as65 (S : k_S) (f : Nat → Int32) : (hp S).set 65 (.inl (800, .inl f)) = hp (sa S 65 f) := rfl
theorem ar66 (S : k_S) : (hp S)[66]? = some (.inl (4, .inl (S.2.1 66))) := rfl
theorem as66 (S : k_S) (f : Nat → Int32) : (hp S).set 66 (.inl (4, .inl f)) = hp (sa S 66 f) := rfl
theorem ar67 (S : k_S) : (hp S)[67]? = some (.inl (10, .inl (S.2.1 67))) := rfl
theorem as67 (S : k_S) (f : Nat → Int32) : (hp S).set 67 (.inl (10, .inl f)) = hp (sa S 67 f) := rfl
theorem ar68 (S : k_S) : (hp S)[68]? = some (.inl (10, .inl (S.2.1 68))) := rfl
theorem as68 (S : k_S) (f : Nat → Int32) : (hp S).set 68 (.inl (10, .inl f)) = hp (sa S 68 f) := rfl
theorem ar69 (S : k_S) : (hp S)[69]? = some (.inl (40, .inl (S.2.1 69))) := rfl
theorem as69 (S : k_S) (f : Nat → Int32) : (hp S).set 69 (.inl (40, .inl f)) = hp (sa S 69 f) := rfl
theorem ar70 (S : k_S) : (hp S)[70]? = some (.inl (40, .inl (S.2.1 70))) := rfl
theorem as70 (S : k_S) (f : Nat → Int32) : (hp S).set 70 (.inl (40, .inl f)) = hp (sa S 70 f) := rfl
theorem ar71 (S : k_S) : (hp S)[71]? = some (.inl (40, .inl (S.2.1 71))) := rfl
theorem as71 (S : k_S) (f : Nat → Int32) : (hp S).set 71 (.inl (40, .inl f)) = hp (sa S 71 f) := rfl
theorem ar72 (S : k_S) : (hp S)[72]? = some (.inl (50, .inl (S.2.1 72))) := rfl
theorem as72 (S : k_S) (f : Nat → Int32) : (hp S).set 72 (.inl (50, .inl f)) = hp (sa S 72 f) := rfl
theorem ar73 (S : k_S) : (hp S)[73]? = some (.inl (24, .inl (S.2.1 73))) := rfl
theorem as73 (S : k_S) (f : Nat → Int32) : (hp S).set 73 (.inl (24, .inl f)) = hp (sa S 73 f) := rfl
theorem ar74 (S : k_S) : (hp S)[74]? = some (.inl (6, .inl (S.2.1 74))) := rfl
theorem as74 (S : k_S) (f : Nat → Int32) : (hp S).set 74 (.inl (6, .inl f)) = hp (sa S 74 f) := rfl
theorem ar75 (S : k_S) : (hp S)[75]? = some (.inl (6, .inl (S.2.1 75))) := rfl
theorem as75 (S : k_S) (f : Nat → Int32) : (hp S).set 75 (.inl (6, .inl f)) = hp (sa S 75 f) := rfl
theorem ar76 (S : k_S) : (hp S)[76]? = some (.inl (6, .inl (S.2.1 76))) := rfl
theorem as76 (S : k_S) (f : Nat → Int32) : (hp S).set 76 (.inl (6, .inl f)) = hp (sa S 76 f) := rfl
theorem ar77 (S : k_S) : (hp S)[77]? = some (.inl (360, .inr (S.2.2 77))) := rfl
theorem as77 (S : k_S) (f : Nat → Int64) : (hp S).set 77 (.inl (360, .inr f)) = hp (sj S 77 f) := rfl
theorem ar78 (S : k_S) : (hp S)[78]? = some (.inl (120, .inl (S.2.1 78))) := rfl
theorem as78 (S : k_S) (f : Nat → Int32) : (hp S).set 78 (.inl (120, .inl f)) = hp (sa S 78 f) := rfl
theorem ar79 (S : k_S) : (hp S)[79]? = some (.inl (120, .inl (S.2.1 79))) := rfl
theorem as79 (S : k_S) (f : Nat → Int32) : (hp S).set 79 (.inl (120, .inl f)) = hp (sa S 79 f) := rfl
theorem ar80 (S : k_S) : (hp S)[80]? = some (.inl (120, .inl (S.2.1 80))) := rfl
theorem as80 (S : k_S) (f : Nat → Int32) : (hp S).set 80 (.inl (120, .inl f)) = hp (sa S 80 f) := rfl
theorem ar81 (S : k_S) : (hp S)[81]? = some (.inl (8, .inl (S.2.1 81))) := rfl
theorem as81 (S : k_S) (f : Nat → Int32) : (hp S).set 81 (.inl (8, .inl f)) = hp (sa S 81 f) := rfl
theorem ar82 (S : k_S) : (hp S)[82]? = some (.inl (130, .inl (S.2.1 82))) := rfl
theorem as82 (S : k_S) (f : Nat → Int32) : (hp S).set 82 (.inl (130, .inl f)) = hp (sa S 82 f) := rfl
theorem ar83 (S : k_S) : (hp S)[83]? = some (.inl (120, .inl (S.2.1 83))) := rfl
theorem as83 (S : k_S) (f : Nat → Int32) : (hp S).set 83 (.inl (120, .inl f)) = hp (sa S 83 f) := rfl
theorem ar84 (S : k_S) : (hp S)[84]? = some (.inl (121, .inr (S.2.2 84))) := rfl
theorem as84 (S : k_S) (f : Nat → Int64) : (hp S).set 84 (.inl (121, .inr f)) = hp (sj S 84 f) := rfl
theorem ar85 (S : k_S) : (hp S)[85]? = some (.inl (120, .inl (S.2.1 85))) := rfl
theorem as85 (S : k_S) (f : Nat → Int32) : (hp S).set 85 (.inl (120, .inl f)) = hp (sa S 85 f) := rfl
theorem ar86 (S : k_S) : (hp S)[86]? = some (.inl (60, .inr (S.2.2 86))) := rfl
theorem as86 (S : k_S) (f : Nat → Int64) : (hp S).set 86 (.inl (60, .inr f)) = hp (sj S 86 f) := rfl
end KX
