/-- the ints and rows that fitness, the plan and its changes live by -/
def crI : List Nat := [803, 1003, 1302, 1656, 1657]
def crA : List Nat := [17, 18, 19, 21, 22, 23, 25, 27, 28, 34, 35, 36, 37]
def Cr (S T : k_S) : Prop := (∀ k, k ∈ crI → T.1 k = S.1 k) ∧ ∀ a, a ∈ crA → T.2.1 a = S.2.1 a
theorem Cr.rf (S : k_S) : Cr S S := ⟨fun _ _ => rfl, fun _ _ => rfl⟩
theorem Cr.tr {S T U : k_S} (h : Cr S T) (h2 : Cr T U) : Cr S U := ⟨fun k hk => (h2.1 k hk).trans (h.1 k hk), fun a ha => (h2.2 a ha).trans (h.2 a ha)⟩
theorem Cr.si {S T : k_S} (h : Cr S T) {k : Nat} (hk : k ∉ crI) (v : Int32) : Cr S (si T k v) := ⟨fun j hj => by show va_up T.1 k v j = _; rw [va_up, if_neg (fun q : j = k => hk (by rw [← q]; exact hj))]; exact h.1 j hj, h.2⟩
theorem Cr.sa {S T : k_S} (h : Cr S T) {a : Nat} (ha : a ∉ crA) (f : Nat → Int32) : Cr S (sa T a f) := ⟨h.1, fun j hj => by show va_up T.2.1 a f j = _; rw [va_up, if_neg (fun q : j = a => ha (by rw [← q]; exact hj))]; exact h.2 j hj⟩
theorem Cr.fr {S T : k_S} (h : FrR S T) : Cr S T := ⟨fun k hk => h.1 k (fun q => by
    have : ∀ k, k ∈ crI → ¬ (51 ≤ k ∧ k ≤ 57) := by decide
    exact this k hk q), fun a ha => by
    have : ∀ a, a ∈ crA → a ≠ 2 ∧ a ≠ 3 := by decide
    exact h.2.1 a (this a ha).1 (this a ha).2⟩
theorem cr_fed {S : k_S} {tp : Nat} (htp : S.1 11 = nI tp) (h120 : tp ≤ 120) (v : Int32) : Cr S (sFed S tp (nI 1) v) ∧ ∃ tp', tp' ≤ 120 ∧ (sFed S tp (nI 1) v).1 11 = nI tp' := by
  have e1 : pIn (nI 1) (nI 1) (nI 4) := by decide
  rw [sFed, if_pos e1, ix_nI (by decide)]
  by_cases h : 120 < tp + 1
  · rw [if_pos h]; exact ⟨Cr.rf S, tp, h120, htp⟩
  · rw [if_neg h]
    refine ⟨?_, tp + 0 + 1, by omega, rfl⟩
    show Cr S (si (sa S 12 _) 11 _)
    exact ((Cr.rf S).sa (by decide) _).si (by decide) _
theorem cr_bc39 {S : k_S} : ∀ n, Cr S (bcS39 S n)
  | 0 => (Cr.rf S).si (by decide) _
  | n + 1 => (cr_bc39 n).sa (by decide) _
theorem cr_bc42 {S : k_S} : ∀ n, Cr S (bcS42 S n)
  | 0 => (Cr.rf S).si (by decide) _
  | n + 1 => (cr_bc42 n).sa (by decide) _
theorem cr_bc45 {S : k_S} : ∀ n, Cr S (bcS45 S n)
  | 0 => (Cr.rf S).si (by decide) _
  | n + 1 => (cr_bc45 n).sa (by decide) _
theorem cr_txt {S U : k_S} {tp : Nat} {x v : Int32} (h : TxtQ S tp x v U) : Cr S U := by
  rcases h with ⟨_, _, e⟩ | ⟨_, f, T, hF, _, hU⟩
  · rw [e]; exact Cr.rf _
  · have hC : Cr S (si T 11 (nI 0)) := (Cr.fr hF).si (by decide) _
    rcases hU with ⟨_, _, rfl⟩ | ⟨_, _, n1, _, _, rfl⟩
    · exact hC
    · split
      · exact hC.tr (cr_bc39 n1)
      · split
        · exact hC.tr (cr_bc42 n1)
        · exact hC.tr (cr_bc45 n1)
theorem cr_lost (S : k_S) (x : Int32) : Cr S (sLost S x) := by
  unfold sLost
  split
  · exact (Cr.rf S).si (by decide) _
  · exact Cr.rf S
theorem up_e {α : Type} (f : Nat → α) (k : Nat) (v : α) : va_up f k v k = v := if_pos rfl
theorem up_n {α : Type} (f : Nat → α) {k j : Nat} (v : α) (h : j ≠ k) : va_up f k v j = f j := if_neg h
theorem fillO_lt (g : Int32) (o : Nat) (f : Nat → Int32) : ∀ n j, o ≤ j → j < o + n → fillO g o f n j = lft g (j - o)
  | 0, j, h1, h2 => absurd h2 (by omega)
  | n + 1, j, h1, h2 => by
    rw [fillO, va_up]
    by_cases h : j = o + n
    · subst h; rw [if_pos rfl, Nat.add_sub_cancel_left]
    · rw [if_neg h]; exact fillO_lt g o f n j h1 (by omega)
theorem fillO_out (g : Int32) (o : Nat) (f : Nat → Int32) : ∀ n j, j < o → fillO g o f n j = f j
  | 0, j, h1 => rfl
  | n + 1, j, h1 => by rw [fillO, up_n _ _ (by omega)]; exact fillO_out g o f n j h1
theorem drS_1 (S : k_S) {k : Nat} (hk : k ≠ 1656) : (drS S).1 k = S.1 k := by
  unfold drS
  rw [show (si (drT S 39) 1656 (nI 39)).1 k = va_up (drT S 39).1 1656 (nI 39) k from rfl, up_n _ _ hk, drT_1]
theorem drS_2 (S : k_S) {a : Nat} (ha : a ≠ 34 ∧ a ≠ 35 ∧ a ≠ 36 ∧ a ≠ 37) : (drS S).2.1 a = S.2.1 a := by
  unfold drS
  rw [show (si (drT S 39) 1656 (nI 39)).2.1 a = (drT S 39).2.1 a from rfl, drT_2 S ha]
theorem tl_T {S T : k_S} (p : Nat) (v : Int32) (d1 : ∀ k, k ≠ 1656 → T.1 k = (si S 1657 (nI 0)).1 k) (d2 : ∀ a, a ≠ 34 ∧ a ≠ 35 ∧ a ≠ 36 ∧ a ≠ 37 → T.2.1 a = S.2.1 a) (m : Nat) : (∀ k, k = 803 ∨ k = 1003 ∨ k = 1302 ∨ k = 11 → (sa (chP T m 0 p (S.2.1 25 p) v) 25 (va_up (S.2.1 25) p v)).1 k = S.1 k) ∧ (sa (chP T m 0 p (S.2.1 25 p) v) 25 (va_up (S.2.1 25) p v)).2.1 25 = va_up (S.2.1 25) p v ∧ (∀ a, a = 17 ∨ a = 18 ∨ a = 19 ∨ a = 21 ∨ a = 22 ∨ a = 23 → (sa (chP T m 0 p (S.2.1 25 p) v) 25 (va_up (S.2.1 25) p v)).2.1 a = S.2.1 a) ∧ (sa (chP T m 0 p (S.2.1 25 p) v) 25 (va_up (S.2.1 25) p v)).1 1656 = nI (m + 1) := by
  refine ⟨fun k hk => ?_, rfl, fun a ha => ?_, rfl⟩
  · have e : k ≠ 1656 ∧ k ≠ 1657 := by rcases hk with rfl | rfl | rfl | rfl <;> decide
    show va_up T.1 1656 (nI (m + 1)) k = S.1 k
    rw [up_n _ _ e.1, d1 k e.1]
    exact up_n _ _ e.2
  · have e : a ≠ 25 ∧ a ≠ 34 ∧ a ≠ 35 ∧ a ≠ 36 ∧ a ≠ 37 := by rcases ha with rfl | rfl | rfl | rfl | rfl | rfl <;> decide
    have e2 := d2 a ⟨e.2.1, e.2.2.1, e.2.2.2.1, e.2.2.2.2⟩
    rw [← e2]
    rcases ha with rfl | rfl | rfl | rfl | rfl | rfl <;> rfl
/-- one change told, of the plan -/
theorem tl_0 (S : k_S) {n p : Nat} (hn : S.1 1656 = nI n) (h40 : n ≤ 40) (v : Int32) : (∀ k, k = 803 ∨ k = 1003 ∨ k = 1302 ∨ k = 11 → (tlU S n 25 0 p v).1 k = S.1 k) ∧ (tlU S n 25 0 p v).2.1 25 = va_up (S.2.1 25) p v ∧ (∀ a, a = 17 ∨ a = 18 ∨ a = 19 ∨ a = 21 ∨ a = 22 ∨ a = 23 → (tlU S n 25 0 p v).2.1 a = S.2.1 a) ∧ ∃ n', n' ≤ 40 ∧ (tlU S n 25 0 p v).1 1656 = nI n' := by
  unfold tlU
  by_cases h : S.2.1 25 p = v
  · rw [if_pos h]
    refine ⟨fun _ _ => rfl, ?_, fun _ _ => rfl, n, h40, hn⟩
    funext j
    by_cases q : j = p
    · subst q; rw [up_e]; exact h
    · rw [up_n _ _ q]
  · rw [if_neg h]
    by_cases h2 : n = 40
    · rw [if_pos h2]
      obtain ⟨T, hT, d1, d2⟩ : ∃ T, drS (si S 1657 (nI 0)) = T ∧ (∀ k, k ≠ 1656 → T.1 k = (si S 1657 (nI 0)).1 k) ∧ (∀ a, a ≠ 34 ∧ a ≠ 35 ∧ a ≠ 36 ∧ a ≠ 37 → T.2.1 a = S.2.1 a) := ⟨_, rfl, fun k hk => drS_1 _ hk, fun a ha => drS_2 _ ha⟩
      rw [hT]
      obtain ⟨g1, g2, g3, g4⟩ := tl_T p v d1 d2 39
      exact ⟨g1, g2, g3, 40, by decide, g4⟩
    · rw [if_neg h2]
      obtain ⟨g1, g2, g3, g4⟩ := tl_T (S := S) (T := si S 1657 (nI 0)) p v (fun _ _ => rfl) (fun _ _ => rfl) n
      exact ⟨g1, g2, g3, n + 1, by omega, g4⟩
/-- what the law has built: w works, r runners, D days of the plan -/
def Bd (Ns : Nat) (xs : Nat → Int32) (S : k_S) (w r D : Nat) : Prop :=
  (S.1 803 = nI w ∧ ∀ v, v < w → S.2.1 17 v = nI (tiN Ns xs v) ∧ S.2.1 18 v = nI (stN Ns xs v)) ∧
  (S.1 1003 = nI r ∧ ∀ q, q < r → S.2.1 21 q = nI (giN Ns xs q) ∧ ∀ k, k < 120 → S.2.1 22 (q * 120 + k) = lft (nI (faN Ns xs q)) k ∧ S.2.1 23 (q * 120 + k) = lft (nI (slN Ns xs q)) k) ∧
  (∀ d, d < 120 → S.2.1 25 d = nI (if d < D then plN Ns xs d else 0)) ∧
  (∃ n, n ≤ 40 ∧ S.1 1656 = nI n) ∧ (∃ dn, dn ≤ 4 ∧ S.1 1302 = nI dn) ∧ ∃ tp, tp ≤ 120 ∧ S.1 11 = nI tp
theorem Bd.cr {Ns : Nat} {xs : Nat → Int32} {S T : k_S} {w r D : Nat} (h : Bd Ns xs S w r D) (hC : Cr S T) (ht : ∃ tp, tp ≤ 120 ∧ T.1 11 = nI tp) : Bd Ns xs T w r D := by
  obtain ⟨⟨a1, a2⟩, ⟨b1, b2⟩, c1, ⟨n, d1, d2⟩, ⟨dn, e1, e2⟩, _⟩ := h
  have i := hC.1
  have a := hC.2
  refine ⟨⟨(i 803 (by decide)).trans a1, fun v hv => ?_⟩, ⟨(i 1003 (by decide)).trans b1, fun q hq => ?_⟩, fun d hd => ?_, ⟨n, d1, (i 1656 (by decide)).trans d2⟩, ⟨dn, e1, (i 1302 (by decide)).trans e2⟩, ht⟩
  · rw [a 17 (by decide), a 18 (by decide)]; exact a2 v hv
  · rw [a 21 (by decide), a 22 (by decide), a 23 (by decide)]; exact b2 q hq
  · rw [a 25 (by decide)]; exact c1 d hd
theorem bd_00 (Ns : Nat) (xs : Nat → Int32) : Bd Ns xs S00 1 0 0 := by
  refine ⟨⟨rfl, fun v hv => ?_⟩, ⟨rfl, fun q hq => absurd hq (by omega)⟩, fun d hd => ?_, ⟨0, by decide, rfl⟩, ⟨0, by decide, rfl⟩, 0, by decide, rfl⟩
  · obtain rfl : v = 0 := by omega
    exact ⟨rfl, rfl⟩
  · rw [if_neg (by omega)]; rfl
theorem bd_work {Ns : Nat} {xs : Nat → Int32} {S : k_S} {w : Nat} (h : Bd Ns xs S w 0 0) (hw : w < 6) : Bd Ns xs (sWork S w (nI (1000 * tiN Ns xs w + 10 * stN Ns xs w + hoN Ns xs w))) (w + 1) 0 0 := by
  obtain ⟨⟨a1, a2⟩, ⟨b1, b2⟩, c1, d1, e1, f1⟩ := h
  have t1 := b_ti Ns xs w
  have t2 := b_st Ns xs w
  have t3 := b_ho Ns xs w
  generalize hx : 1000 * tiN Ns xs w + 10 * stN Ns xs w + hoN Ns xs w = x
  have hx31 : x < 2 ^ 31 := by omega
  have hc : ¬ nI x < 0 ∧ nI x ≤ nI 99999 := ⟨nI_pos hx31, nI_le (by omega) (by omega)⟩
  have e10 : x / 1000 = tiN Ns xs w := by omega
  have e11 : x / 10 % 100 = stN Ns xs w := by omega
  rw [sWork, if_pos hc, wkU, if_neg (by omega), (dmN hx31 (by decide) (by decide)).1, (dmN hx31 (by decide) (by decide)).1, (dmN (div_lt31 hx31) (by decide) (by decide)).2, e10, e11]
  refine ⟨⟨rfl, fun v hv => ?_⟩, ⟨b1, b2⟩, c1, d1, e1, f1⟩
  show va_up (S.2.1 17) w _ v = _ ∧ va_up (S.2.1 18) w _ v = _
  by_cases q : v = w
  · subst q; rw [up_e, up_e]; exact ⟨rfl, rfl⟩
  · rw [up_n _ _ q, up_n _ _ q]; exact a2 v (by omega)
theorem bd_run {Ns : Nat} {xs : Nat → Int32} {S : k_S} {w r : Nat} (h : Bd Ns xs S w r 0) (hr : r < 2) : Bd Ns xs (sRun S r (nI (1000 * faN Ns xs r + slN Ns xs r)) (nI (giN Ns xs r))) w (r + 1) 0 := by
  obtain ⟨⟨a1, a2⟩, ⟨b1, b2⟩, c1, d1, e1, f1⟩ := h
  have t1 := b_fa Ns xs r
  have t2 := b_sl Ns xs r
  have t3 := b_gi Ns xs r
  generalize hx : 1000 * faN Ns xs r + slN Ns xs r = x
  have hx31 : x < 2 ^ 31 := by omega
  have e10 : x / 1000 = faN Ns xs r := by omega
  have e11 : x % 1000 = slN Ns xs r := by omega
  have hc : pRun (nI x) (nI (giN Ns xs r)) := by
    unfold pRun
    rw [(dmN hx31 (by decide) (by decide)).1, (dmN hx31 (by decide) (by decide)).2, e10, e11]
    exact ⟨⟨nI_pos hx31, ⟨nI_le (by omega) (by omega), nI_le (by omega) (by omega)⟩, nI_le (by omega) (by omega), nI_le (by omega) (by omega)⟩, nI_le (by omega) (by omega), nI_le (by omega) (by omega)⟩
  rw [sRun, if_pos hc, rnU, if_neg (by omega), (dmN hx31 (by decide) (by decide)).1, (dmN hx31 (by decide) (by decide)).2, e10, e11]
  refine ⟨⟨a1, a2⟩, ⟨rfl, fun q hq => ?_⟩, c1, d1, e1, f1⟩
  show va_up (S.2.1 21) r _ q = _ ∧ ∀ k, k < 120 → fillO (nI (faN Ns xs r)) (r * 120) (S.2.1 22) 120 (q * 120 + k) = _ ∧ fillO (nI (slN Ns xs r)) (r * 120) (S.2.1 23) 120 (q * 120 + k) = _
  by_cases z : q = r
  · subst z
    refine ⟨up_e _ _ _, fun k hk => ?_⟩
    rw [fillO_lt _ _ _ 120 _ (by omega) (by omega), fillO_lt _ _ _ 120 _ (by omega) (by omega), Nat.add_sub_cancel_left]
    exact ⟨rfl, rfl⟩
  · obtain ⟨b3, b4⟩ := b2 q (by omega)
    refine ⟨(up_n _ _ z).trans b3, fun k hk => ?_⟩
    rw [fillO_out _ _ _ 120 _ (by omega), fillO_out _ _ _ 120 _ (by omega)]
    exact b4 k hk
theorem bd_plan {Ns : Nat} {xs : Nat → Int32} {S : k_S} {r D n : Nat} (h : Bd Ns xs S 4 r D) (hn : S.1 1656 = nI n) (h40 : n ≤ 40) (hD : D < 40) : Bd Ns xs (sPln S n (nI D) (nI (plN Ns xs D))) 4 r (D + 1) := by
  obtain ⟨⟨a1, a2⟩, ⟨b1, b2⟩, c1, d1, ⟨dn, e1, e2⟩, ⟨tp, f1, f2⟩⟩ := h
  have t1 := b_pl Ns xs D
  have hc : pD (nI D) ∧ pW (S.1 803) (nI (plN Ns xs D)) := ⟨(pD_N (by omega)).mpr (by omega), by rw [a1]; exact (pW_N (by omega) (by decide)).mpr (by omega)⟩
  rw [sPln, if_pos hc, ix_nI (by omega)]
  obtain ⟨g1, g2, g3, g4⟩ := tl_0 S (p := D) hn h40 (nI (plN Ns xs D))
  refine ⟨⟨(g1 803 (by omega)).trans a1, fun v hv => ?_⟩, ⟨(g1 1003 (by omega)).trans b1, fun q hq => ?_⟩, fun d hd => ?_, g4, ⟨dn, e1, (g1 1302 (by omega)).trans e2⟩, tp, f1, (g1 11 (by omega)).trans f2⟩
  · rw [g3 17 (by omega), g3 18 (by omega)]; exact a2 v hv
  · rw [g3 21 (by omega), g3 22 (by omega), g3 23 (by omega)]; exact b2 q hq
  · rw [g2]
    by_cases q : d = D
    · subst q; rw [up_e, if_pos (by omega)]
    · rw [up_n _ _ q, c1 d hd]
      by_cases z : d < D
      · rw [if_pos z, if_pos (by omega)]
      · rw [if_neg z, if_neg (by omega)]
theorem bd_cnt {Ns : Nat} {xs : Nat → Int32} {S : k_S} {w r D dn : Nat} (h : Bd Ns xs S w r D) (hdn : S.1 1302 = nI dn) (h4 : dn ≤ 4) (x v : Int32) : Bd Ns xs (sCnt S dn x v) w r D := by
  obtain ⟨a, b, c, d, e, f⟩ := h
  unfold sCnt
  split
  · unfold rcU
    split
    · exact ⟨a, b, c, d, e, f⟩
    · exact ⟨a, b, c, d, ⟨dn + 1, by omega, rfl⟩, f⟩
  · exact ⟨a, b, c, d, e, f⟩

