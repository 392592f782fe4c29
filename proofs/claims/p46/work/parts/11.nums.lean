/-! NUMBERS of the road: truth as an int; rows whose ints are naturals (nI), their branches told of naturals -/
def b2i (p : Prop) [Decidable p] : Int32 := if p then nI 1 else nI 0
theorem b2i_t {p : Prop} [Decidable p] (h : p) : b2i p = nI 1 := if_pos h
theorem b2i_f {p : Prop} [Decidable p] (h : ¬ p) : b2i p = nI 0 := if_neg h
theorem b2i_c {p q : Prop} [Decidable p] [Decidable q] (h : p ↔ q) : b2i p = b2i q := by unfold b2i; by_cases hp : p <;> simp [hp, h.mp, ← h]
theorem nI10 : ¬ nI 1 = 0 := by decide
theorem nI00 : nI 0 = 0 := rfl
theorem b2i_0 {p : Prop} [Decidable p] : b2i p = 0 ↔ ¬ p := by unfold b2i; by_cases hp : p <;> simp [hp, nI10, nI00]
theorem b2i_01 (p : Prop) [Decidable p] : b2i p = 0 ∨ b2i p = 1 := by
  by_cases hp : p
  · rw [b2i_t hp]; exact Or.inr rfl
  · rw [b2i_f hp]; exact Or.inl rfl
theorem k_nb (p : Prop) [Decidable p] : narrow .boolean (.int (b2i p)) = .int (b2i p) := by unfold b2i; by_cases hp : p <;> simp [hp] <;> rfl
theorem nI_inc (a g : Nat) : nI a + Int32.ofInt (g : Int) = nI (a + g) := by rw [← nI_add]; congr 1
/-- where an int is a place -/
def ix (x : Int32) : Nat := x.toNatClampNeg
theorem ix_nI {n : Nat} (h : n < 2 ^ 31) : ix (nI n) = n := nI_clamp h
theorem k_rng {x : Int32} {n : Nat} (h1 : nI 0 ≤ x) (h2 : x < nI n) (hn : n < 2 ^ 31) : ∃ j, j < n ∧ x = nI j := by
  rcases pk_ix x hn with h | h | h
  · exact absurd h1 (by rw [Int32.not_le]; exact h)
  · exact absurd h2 (by rw [Int32.not_lt]; exact h)
  · exact h
theorem k_rngle {x : Int32} {n : Nat} (h1 : nI 0 ≤ x) (h2 : x ≤ nI n) (hn : n + 1 < 2 ^ 31) : ∃ j, j ≤ n ∧ x = nI j := by
  obtain ⟨j, h3, h4⟩ := k_rng (n := n + 1) h1 (by
    rw [Int32.lt_iff_toInt_lt, nI_toInt hn]
    have := Int32.le_iff_toInt_le.mp h2
    rw [nI_toInt (by omega)] at this
    omega) hn
  exact ⟨j, by omega, h4⟩
theorem k_nneg {x : Int32} (h1 : ¬ x < 0) : ∃ j, j < 2 ^ 31 ∧ x = nI j := by
  obtain ⟨j, h2, h3⟩ := nI_of h1
  exact ⟨j, h2, h3⟩
section KN
variable {X : k_X} {M : k_M} {d bc bs pc n : Nat} {L st : List Value} {h : k_H} {Po : Option Value → k_H → Prop}
theorem k_topi {x : Int32} (y : Int32) (e : x = y) (k : AW X M d bc bs pc L (.int y :: st) h Po) : AW X M d bc bs pc L (.int x :: st) h Po := e ▸ k
theorem k_topl {x : Int64} (y : Int64) (e : x = y) (k : AW X M d bc bs pc L (.long y :: st) h Po) : AW X M d bc bs pc L (.long x :: st) h Po := e ▸ k
theorem AW.up {d2 : Nat} (k : AW X M d bc bs pc L st h Po) (hd : d ≤ d2) : AW X M d2 bc bs pc L st h Po := by
  intro p l e R s m args below meth c Z cI cJ D H locs cells slots ls Q C Y hL h1 h2 E
  obtain ⟨a1, a2, a3, a4, a5, a6, a7, a8, a9, a10, a11, a12⟩ := C
  exact k p l e R s m args below meth c Z cI cJ D H locs cells slots ls Q ⟨a1, a2, a3, a4, a5, a6, a7, a8, a9, a10, by omega, by omega⟩ Y hL h1 h2 E
theorem k_forget (i : Nat) {L2 : List Value} (e : L.set i .null = L2) (k : AW X M d bc bs pc L2 st h Po) : AW X M d bc bs pc L st h Po := by
  subst e
  intro p l e R s m args below meth c Z cI cJ D H locs cells slots ls Q C Y hL h1 h2 E
  refine k p l e R s m args below meth c Z cI cJ D H locs cells slots ls Q C Y ⟨by rw [List.length_set]; exact hL.1, hL.2.1, hL.2.2.1, fun j v hj hv => ?_⟩ h1 h2 E
  by_cases q : j = i
  · subst q
    rw [List.getElem?_set_self'] at hj
    cases hq : L[j]? with
    | none => rw [hq] at hj; cases hj
    | some z => rw [hq] at hj; exact absurd (Option.some.inj hj).symm hv
  · rw [List.getElem?_set_ne (fun z => q z.symm)] at hj
    exact hL.2.2.2 j v hj hv
theorem k_heap {h2 : k_H} (e : h = h2) (k : AW X M d bc bs pc L st h2 Po) : AW X M d bc bs pc L st h Po := e ▸ k
theorem k_loc {L2 : List Value} (e : L = L2) (k : AW X M d bc bs pc L2 st h Po) : AW X M d bc bs pc L st h Po := e ▸ k
theorem k_ifb_eq {p : Prop} [Decidable p] {off : Int} (tgt : Nat) (hd : k_dc M pc (.ifCond .eq off) 3 n) (ht : (pc : Int) + off = (tgt : Int)) (kt : ¬ p → AW X M d bc bs tgt L st h Po) (kf : p → AW X M d bc bs n L st h Po) : AW X M d bc bs pc L (.int (b2i p) :: st) h Po :=
  k_if_eq tgt hd ht (fun q => kt (b2i_0.mp q)) (fun q => kf (Decidable.not_not.mp (fun z => q (b2i_0.mpr z))))
theorem k_ifb_ne {p : Prop} [Decidable p] {off : Int} (tgt : Nat) (hd : k_dc M pc (.ifCond .ne off) 3 n) (ht : (pc : Int) + off = (tgt : Int)) (kt : p → AW X M d bc bs tgt L st h Po) (kf : ¬ p → AW X M d bc bs n L st h Po) : AW X M d bc bs pc L (.int (b2i p) :: st) h Po :=
  k_if_ne tgt hd ht (fun q => kt (Decidable.not_not.mp (fun z => q (b2i_0.mpr z)))) (fun q => kf (b2i_0.mp q))
theorem k_iaddN {a b : Nat} (hd : k_dc M pc .iadd 1 n) (k : AW X M d bc bs n L (.int (nI (a + b)) :: st) h Po) : AW X M d bc bs pc L (.int (nI b) :: .int (nI a) :: st) h Po := k_iadd hd (by rw [nI_add]; exact k)
theorem k_imulN {a b : Nat} (hd : k_dc M pc .imul 1 n) (k : AW X M d bc bs n L (.int (nI (a * b)) :: st) h Po) : AW X M d bc bs pc L (.int (nI b) :: .int (nI a) :: st) h Po := k_imul hd (by rw [pk_mul]; exact k)
theorem k_isubN {a b : Nat} (hd : k_dc M pc .isub 1 n) (hab : b ≤ a) (k : AW X M d bc bs n L (.int (nI (a - b)) :: st) h Po) : AW X M d bc bs pc L (.int (nI b) :: .int (nI a) :: st) h Po := k_isub hd (by rw [pk_sub hab]; exact k)
theorem k_idivN {a b : Nat} (hd : k_dc M pc .idiv 1 n) (ha : a < 2 ^ 31) (h0 : 0 < b) (hb : b < 2 ^ 31) (k : AW X M d bc bs n L (.int (nI (a / b)) :: st) h Po) : AW X M d bc bs pc L (.int (nI b) :: .int (nI a) :: st) h Po := k_idiv hd (nI_ne0 h0 hb) (by rw [pk_div ha h0 hb]; exact k)
theorem k_iremN {a b : Nat} (hd : k_dc M pc .irem 1 n) (ha : a < 2 ^ 31) (h0 : 0 < b) (hb : b < 2 ^ 31) (k : AW X M d bc bs n L (.int (nI (a % b)) :: st) h Po) : AW X M d bc bs pc L (.int (nI b) :: .int (nI a) :: st) h Po := k_irem hd (nI_ne0 h0 hb) (by rw [pk_rem ha h0 hb]; exact k)
theorem k_iincN {z g a : Nat} {L2 : List Value} (hd : k_dc M pc (.iinc z (g : Int)) 3 n) (hz : z < M.2.2.1) (hx : L[z]? = some (.int (nI a))) (hl : k_st L z (.int (nI (a + g))) = L2) (k : AW X M d bc bs n L2 st h Po) : AW X M d bc bs pc L st h Po := k_iinc hd hz hx (nI_inc a g) hl k
theorem k_ialdN {a N j : Nat} {f : Nat → Int32} (hd : k_dc M pc .iaload 1 n) (ha : h[a]? = some (.inl (N, .inl f))) (hj : j < N) (hN : N < 2 ^ 31) (k : AW X M d bc bs n L (.int (f j) :: st) h Po) : AW X M d bc bs pc L (.int (nI j) :: .ref a :: st) h Po := k_iald hd ha (vp_in_nI hj hN) (by rw [nI_clamp (by omega)]; exact k)
theorem k_laldN {a N j : Nat} {f : Nat → Int64} (hd : k_dc M pc .laload 1 n) (ha : h[a]? = some (.inl (N, .inr (.inl f)))) (hj : j < N) (hN : N < 2 ^ 31) (k : AW X M d bc bs n L (.long (f j) :: st) h Po) : AW X M d bc bs pc L (.int (nI j) :: .ref a :: st) h Po := k_lald hd ha (vp_in_nI hj hN) (by rw [nI_clamp (by omega)]; exact k)
theorem k_iastN {a N j : Nat} {f : Nat → Int32} {x : Int32} {h2' : k_H} (hd : k_dc M pc .iastore 1 n) (ha : h[a]? = some (.inl (N, .inl f))) (hj : j < N) (hN : N < 2 ^ 31) (he2 : h.set a (.inl (N, .inl (va_up f j x))) = h2') (k : AW X M d bc bs n L st h2' Po) : AW X M d bc bs pc L (.int x :: .int (nI j) :: .ref a :: st) h Po := k_iast hd ha (vp_in_nI hj hN) (by rw [nI_clamp (by omega)]; exact he2) k
theorem k_lastN {a N j : Nat} {f : Nat → Int64} {x : Int64} {h2' : k_H} (hd : k_dc M pc .lastore 1 n) (ha : h[a]? = some (.inl (N, .inr (.inl f)))) (hj : j < N) (hN : N < 2 ^ 31) (he2 : h.set a (.inl (N, .inr (.inl (va_up f j x)))) = h2') (k : AW X M d bc bs n L st h2' Po) : AW X M d bc bs pc L (.long x :: .int (nI j) :: .ref a :: st) h Po := k_last hd ha (vp_in_nI hj hN) (by rw [nI_clamp (by omega)]; exact he2) k
theorem k_icmp_eqN {a b : Nat} {off : Int} (tgt : Nat) (hd : k_dc M pc (.if_icmp .eq off) 3 n) (ht : (pc : Int) + off = (tgt : Int)) (ha : a < 2 ^ 31) (hb : b < 2 ^ 31) (kt : a = b → AW X M d bc bs tgt L st h Po) (kf : a ≠ b → AW X M d bc bs n L st h Po) : AW X M d bc bs pc L (.int (nI b) :: .int (nI a) :: st) h Po := k_icmp_eq tgt hd ht (pk_eq a b kt kf).1 (pk_eq a b kt kf).2
theorem k_icmp_neN {a b : Nat} {off : Int} (tgt : Nat) (hd : k_dc M pc (.if_icmp .ne off) 3 n) (ht : (pc : Int) + off = (tgt : Int)) (ha : a < 2 ^ 31) (hb : b < 2 ^ 31) (kt : a ≠ b → AW X M d bc bs tgt L st h Po) (kf : a = b → AW X M d bc bs n L st h Po) : AW X M d bc bs pc L (.int (nI b) :: .int (nI a) :: st) h Po := k_icmp_ne tgt hd ht (pk_eq a b kf kt).2 (pk_eq a b kf kt).1
theorem k_icmp_ltN {a b : Nat} {off : Int} (tgt : Nat) (hd : k_dc M pc (.if_icmp .lt off) 3 n) (ht : (pc : Int) + off = (tgt : Int)) (ha : a < 2 ^ 31) (hb : b < 2 ^ 31) (kt : a < b → AW X M d bc bs tgt L st h Po) (kf : b ≤ a → AW X M d bc bs n L st h Po) : AW X M d bc bs pc L (.int (nI b) :: .int (nI a) :: st) h Po := k_icmp_lt tgt hd ht (pk_lt a b kt kf).1 (pk_lt a b kt kf).2
theorem k_icmp_geN {a b : Nat} {off : Int} (tgt : Nat) (hd : k_dc M pc (.if_icmp .ge off) 3 n) (ht : (pc : Int) + off = (tgt : Int)) (ha : a < 2 ^ 31) (hb : b < 2 ^ 31) (kt : b ≤ a → AW X M d bc bs tgt L st h Po) (kf : a < b → AW X M d bc bs n L st h Po) : AW X M d bc bs pc L (.int (nI b) :: .int (nI a) :: st) h Po := k_icmp_ge tgt hd ht (pk_le b a kt kf).1 (pk_le b a kt kf).2
theorem k_icmp_gtN {a b : Nat} {off : Int} (tgt : Nat) (hd : k_dc M pc (.if_icmp .gt off) 3 n) (ht : (pc : Int) + off = (tgt : Int)) (ha : a < 2 ^ 31) (hb : b < 2 ^ 31) (kt : b < a → AW X M d bc bs tgt L st h Po) (kf : a ≤ b → AW X M d bc bs n L st h Po) : AW X M d bc bs pc L (.int (nI b) :: .int (nI a) :: st) h Po := k_icmp_gt tgt hd ht (pk_lt b a kt kf).1 (pk_lt b a kt kf).2
theorem k_icmp_leN {a b : Nat} {off : Int} (tgt : Nat) (hd : k_dc M pc (.if_icmp .le off) 3 n) (ht : (pc : Int) + off = (tgt : Int)) (ha : a < 2 ^ 31) (hb : b < 2 ^ 31) (kt : a ≤ b → AW X M d bc bs tgt L st h Po) (kf : b < a → AW X M d bc bs n L st h Po) : AW X M d bc bs pc L (.int (nI b) :: .int (nI a) :: st) h Po := k_icmp_le tgt hd ht (pk_le a b kt kf).1 (pk_le a b kt kf).2
theorem k_if_eqN {a : Nat} {off : Int} (tgt : Nat) (hd : k_dc M pc (.ifCond .eq off) 3 n) (ht : (pc : Int) + off = (tgt : Int)) (ha : a < 2 ^ 31) (kt : a = 0 → AW X M d bc bs tgt L st h Po) (kf : a ≠ 0 → AW X M d bc bs n L st h Po) : AW X M d bc bs pc L (.int (nI a) :: st) h Po := k_if_eq tgt hd ht (pk_eq a 0 kt kf).1 (pk_eq a 0 kt kf).2
theorem k_if_neN {a : Nat} {off : Int} (tgt : Nat) (hd : k_dc M pc (.ifCond .ne off) 3 n) (ht : (pc : Int) + off = (tgt : Int)) (ha : a < 2 ^ 31) (kt : a ≠ 0 → AW X M d bc bs tgt L st h Po) (kf : a = 0 → AW X M d bc bs n L st h Po) : AW X M d bc bs pc L (.int (nI a) :: st) h Po := k_if_ne tgt hd ht (pk_eq a 0 kf kt).2 (pk_eq a 0 kf kt).1
theorem k_if_leN {a : Nat} {off : Int} (tgt : Nat) (hd : k_dc M pc (.ifCond .le off) 3 n) (ht : (pc : Int) + off = (tgt : Int)) (ha : a < 2 ^ 31) (kt : a = 0 → AW X M d bc bs tgt L st h Po) (kf : 0 < a → AW X M d bc bs n L st h Po) : AW X M d bc bs pc L (.int (nI a) :: st) h Po := k_if_le tgt hd ht (pk_le a 0 (fun z => kt (by omega)) kf).1 (pk_le a 0 (fun z => kt (by omega)) kf).2
theorem k_if_gtN {a : Nat} {off : Int} (tgt : Nat) (hd : k_dc M pc (.ifCond .gt off) 3 n) (ht : (pc : Int) + off = (tgt : Int)) (ha : a < 2 ^ 31) (kt : 0 < a → AW X M d bc bs tgt L st h Po) (kf : a = 0 → AW X M d bc bs n L st h Po) : AW X M d bc bs pc L (.int (nI a) :: st) h Po := k_if_gt tgt hd ht (pk_lt 0 a kt (fun z => kf (by omega))).1 (pk_lt 0 a kt (fun z => kf (by omega))).2
theorem k_if_ltN {a : Nat} {off : Int} (tgt : Nat) (hd : k_dc M pc (.ifCond .lt off) 3 n) (ht : (pc : Int) + off = (tgt : Int)) (ha : a < 2 ^ 31) (kf : AW X M d bc bs n L st h Po) : AW X M d bc bs pc L (.int (nI a) :: st) h Po := k_if_lt tgt hd ht (fun q => absurd q (nI_pos ha)) (fun _ => kf)
theorem k_if_geN {a : Nat} {off : Int} (tgt : Nat) (hd : k_dc M pc (.ifCond .ge off) 3 n) (ht : (pc : Int) + off = (tgt : Int)) (ha : a < 2 ^ 31) (kt : AW X M d bc bs tgt L st h Po) : AW X M d bc bs pc L (.int (nI a) :: st) h Po := k_if_ge tgt hd ht (fun _ => kt) (fun q => absurd (nI_pos' ha) q)
theorem cVX1 {M' : k_M} {d' na ix a : Nat} {As rest : List Value} {v : Value} {Q : k_S → Prop} (hd : k_dc M pc (.invokevirtual ix) 3 n) (hl : Cond.methodLink M.1.cls ix M'.1 ∈ k_tG) (hw : k_mw M' na) (hw2 : Cond.instanceMethod M'.1 ∈ k_tG ∧ Cond.selects M'.1.cls M'.1 M'.1 ∈ k_tG) (hrc : ∃ (ci : Nat) (fs : List Value) (q : vw_C), h[a]? = some (.inr (ci, fs)) ∧ vwCl[ci]? = some q ∧ q.1 = M'.1.cls) (hpq : k_popn (na + 1) st [] = some (.ref a :: As, rest)) (hsp : Sp d' 0 0 M' (.ref a :: As) h (Rx (some v) Q)) (hdd : d' < d) (hct : (rest.map fun v => v.category).sum ≤ 8) (k : ∀ S', Q S' → AW X M d bc bs n L (v :: rest) (hp S') Po) : AW X M d bc bs pc L st h Po := by
  obtain ⟨ci, fs, q, hq1, hq2, hq3⟩ := hrc
  refine k_callV hd hl hw hw2 ⟨hq1, q, hq2, hq3⟩ hpq hsp hdd ⟨(Nat.zero_add _).symm, (Nat.zero_add _).symm⟩ hct ?_
  rintro r h' ⟨rfl, S', rfl, hQ⟩
  exact k S' hQ
theorem cVX0 {M' : k_M} {d' na ix a : Nat} {As rest : List Value} {v : Value} {Q : k_S → Prop} (hd : k_dc M pc (.invokevirtual ix) 3 n) (hl : Cond.methodLink M.1.cls ix M'.1 ∈ k_tG) (hw : k_mw M' na) (hw2 : Cond.instanceMethod M'.1 ∈ k_tG ∧ Cond.selects M'.1.cls M'.1 M'.1 ∈ k_tG) (hrc : ∃ (ci : Nat) (fs : List Value) (q : vw_C), h[a]? = some (.inr (ci, fs)) ∧ vwCl[ci]? = some q ∧ q.1 = M'.1.cls) (hpq : k_popn (na + 1) st [] = some (.ref a :: As, rest)) (hsp : Sp d' 0 0 M' (.ref a :: As) h (Rx (none) Q)) (hdd : d' < d) (hct : (rest.map fun v => v.category).sum ≤ 8) (k : ∀ S', Q S' → AW X M d bc bs n L (rest) (hp S') Po) : AW X M d bc bs pc L st h Po := by
  obtain ⟨ci, fs, q, hq1, hq2, hq3⟩ := hrc
  refine k_callV hd hl hw hw2 ⟨hq1, q, hq2, hq3⟩ hpq hsp hdd ⟨(Nat.zero_add _).symm, (Nat.zero_add _).symm⟩ hct ?_
  rintro r h' ⟨rfl, S', rfl, hQ⟩
  exact k S' hQ
end KN
