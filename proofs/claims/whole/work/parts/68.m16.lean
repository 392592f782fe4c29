/-! THE READING OF A TEXT: the class's reader beside the reference's -/
/-- what waited comes to the code, the latest first -/
def emA : List Int32 → List Int32 → List Int32
  | [], c => c
  | s :: U, c => emA U ((-s) :: c)
theorem emA_app (b : Int32) : ∀ (U c : List Int32), emA (U ++ [b]) c = (-b) :: emA U c
  | [], c => rfl
  | s :: U, c => by show emA (U ++ [b]) ((-s) :: c) = _; rw [emA_app b U]; rfl
theorem ew_top {k : Nat} {W : List Int32} (h : lev (hdI W) < k) (c : List Int32) : ew k c W = (c, W) := by
  cases W with
  | nil => rfl
  | cons s W => rw [ew, if_neg (by have : lev s < k := h; omega)]
theorem ew_emA {k : Nat} {W : List Int32} (h : lev (hdI W) < k) : ∀ (U c : List Int32), (∀ s ∈ U, k ≤ lev s) → ew k c (U ++ W) = (emA U c, W)
  | [], c, _ => ew_top h c
  | s :: U, c, hU => by
    show ew k c (s :: (U ++ W)) = _
    rw [ew, if_pos (hU s (List.mem_cons_self ..))]
    exact ew_emA h U _ (fun x hx => hU x (List.mem_cons_of_mem _ hx))
/-- the codes of both, element by element -/
def rlL : List Int32 → List Int32 → Prop
  | [], [] => True
  | x :: c, y :: m => cRl x y ∧ rlL c m
  | _, _ => False
theorem rlL_len : ∀ {c m : List Int32}, rlL c m → c.length = m.length
  | [], [], _ => rfl
  | x :: c, y :: m, h => by simp [rlL_len h.2]
  | [], y :: m, h => h.elim
  | x :: c, [], h => h.elim
def hrV (t : Nat → Int32) (n p : Nat) : Int32 := if p < n then t p else -1
theorem hr_in {t : Nat → Int32} {n p k : Nat} (h : hrV t n p = nI k) (hk : k < 2 ^ 31) : p < n ∧ t p = nI k := by
  rw [hrV] at h
  by_cases c : p < n
  · rw [if_pos c] at h; exact ⟨c, h⟩
  · rw [if_neg c] at h
    have q := congrArg Int32.toInt h
    rw [nI_toInt hk, show (-1 : Int32).toInt = -1 from by decide] at q
    omega
theorem hr_p {t : Nat → Int32} {n p : Nat} (h : p < n) : hrV t n p = t p := if_pos h
/-- a fault at a place: the class's reader doesn't go on there -/
def Flt (t : Nat → Int32) (n p : Nat) : Prop := (p < n ∧ ∃ st, crn t p = some st ∧ cst st (t p) = none) ∨ (p = n ∧ ∃ st, crn t n = some st ∧ ¬ (st.2.2.2.1 = false ∧ (ew 1 st.1 st.2.1).2 = []))
/-- what the next byte is not -/
def nxO (k : Nat) (t : Nat → Int32) (n p : Nat) (c W : List Int32) (dg : Nat) : Prop := p < n → (k ≤ lev (t p) → lev (t p) ≤ 5 → lev (t p) = 3 ∧ lev (hdI (ew 4 c W).2) = 3) ∧ (pIn (t p) (nI 48) (nI 57) → dg < 1 ∨ 3 < dg)
theorem lev_cs (b : Int32) : (b = nI 124 ∧ lev b = 1) ∨ (b = nI 38 ∧ lev b = 2) ∨ ((b = nI 60 ∨ b = nI 61 ∨ b = nI 62) ∧ lev b = 3) ∨ ((b = nI 43 ∨ b = nI 45) ∧ lev b = 4) ∨ ((b = nI 42 ∨ b = nI 47 ∨ b = nI 37) ∧ lev b = 5) ∨ ((b = nI 33 ∨ b = nI 126) ∧ lev b = 6) ∨ lev b = 0 := by
  by_cases h1 : b = nI 124
  · exact Or.inl ⟨h1, by rw [h1]; decide⟩
  by_cases h2 : b = nI 38
  · exact Or.inr (Or.inl ⟨h2, by rw [h2]; decide⟩)
  by_cases h3 : b = nI 60 ∨ b = nI 61 ∨ b = nI 62
  · exact Or.inr (Or.inr (Or.inl ⟨h3, by rcases h3 with h | h | h <;> rw [h] <;> decide⟩))
  by_cases h4 : b = nI 43 ∨ b = nI 45
  · exact Or.inr (Or.inr (Or.inr (Or.inl ⟨h4, by rcases h4 with h | h <;> rw [h] <;> decide⟩)))
  by_cases h5 : b = nI 42 ∨ b = nI 47 ∨ b = nI 37
  · exact Or.inr (Or.inr (Or.inr (Or.inr (Or.inl ⟨h5, by rcases h5 with h | h | h <;> rw [h] <;> decide⟩))))
  by_cases h6 : b = nI 33 ∨ b = nI 126
  · exact Or.inr (Or.inr (Or.inr (Or.inr (Or.inr (Or.inl ⟨h6, by rcases h6 with h | h <;> rw [h] <;> decide⟩)))))
  · exact Or.inr (Or.inr (Or.inr (Or.inr (Or.inr (Or.inr (by rw [lev, if_neg h1, if_neg h2, if_neg h3, if_neg h4, if_neg h5, if_neg h6]))))))
theorem lev_1 {b : Int32} (h : lev b = 1) : b = nI 124 := by
  rcases lev_cs b with q | q | q | q | q | q | q <;> first | exact q.1 | omega
theorem lev_2 {b : Int32} (h : lev b = 2) : b = nI 38 := by
  rcases lev_cs b with q | q | q | q | q | q | q <;> first | exact q.1 | omega
theorem lev_3 {b : Int32} (h : lev b = 3) : b = nI 60 ∨ b = nI 61 ∨ b = nI 62 := by
  rcases lev_cs b with q | q | q | q | q | q | q <;> first | exact q.1 | omega
theorem lev_4 {b : Int32} (h : lev b = 4) : b = nI 43 ∨ b = nI 45 := by
  rcases lev_cs b with q | q | q | q | q | q | q <;> first | exact q.1 | omega
theorem lev_5 {b : Int32} (h : lev b = 5) : b = nI 42 ∨ b = nI 47 ∨ b = nI 37 := by
  rcases lev_cs b with q | q | q | q | q | q | q <;> first | exact q.1 | omega
theorem lev_6 {b : Int32} (h : lev b = 6) : b = nI 33 ∨ b = nI 126 := by
  rcases lev_cs b with q | q | q | q | q | q | q <;> first | exact q.1 | omega
/-- an operator is no digit, no bracket, no end -/
theorem lev_op {b : Int32} (h : 1 ≤ lev b) (h5 : lev b ≤ 5) : ¬ pIn b (nI 48) (nI 57) ∧ ¬ b = nI 41 ∧ ¬ b = nI 59 ∧ ¬ b = nI 63 := by
  rcases lev_cs b with q | q | q | q | q | q | q
  · rw [q.1]; decide
  · rw [q.1]; decide
  · rcases q.1 with h | h | h <;> rw [h] <;> decide
  · rcases q.1 with h | h <;> rw [h] <;> decide
  · rcases q.1 with h | h | h <;> rw [h] <;> decide
  · omega
  · omega
theorem cst_b {c W : List Int32} {dg : Nat} {as : Bool} (b : Int32) : cst (c, W, dg, true, as) b = bgP c W dg as b := if_pos rfl
theorem cst_g {c W : List Int32} {dg : Nat} {as : Bool} (b : Int32) : cst (c, W, dg, false, as) b = goP c W dg as b := if_neg (fun h : false = true => by cases h)
theorem crn_s {t : Nat → Int32} {p : Nat} {st st2 : cS} (h : crn t p = some st) (e : cst st (t p) = some st2) : crn t (p + 1) = some st2 := by rw [crn, h]; exact e
/-- an operator behind a part -/
theorem op_st {c U W : List Int32} {dg k : Nat} {as : Bool} {b : Int32} (hU : ∀ s ∈ U, k ≤ lev s) (hW : lev (hdI W) < k) (hb : lev b = k) (h1 : 1 ≤ k) (h5 : k ≤ 5) (h3 : k ≠ 3) : cst (c, U ++ W, dg, false, as) b = some (emA U c, b :: W, 0, true, as) := by
  obtain ⟨d1, d2, d3, d4⟩ := lev_op (b := b) (by omega) (by omega)
  rw [cst_g]
  unfold goP
  rw [if_neg d1, if_neg d2, if_neg d3, if_neg d4, if_neg (by omega), if_neg (by omega), hb, ew_emA hW U c hU]
theorem op_3 {c U W : List Int32} {dg : Nat} {as : Bool} {b : Int32} (hU : ∀ s ∈ U, 4 ≤ lev s) (hW : lev (hdI W) < 3) (hb : lev b = 3) : cst (c, U ++ W, dg, false, as) b = some (emA U c, b :: W, 0, true, as) := by
  obtain ⟨d1, d2, d3, d4⟩ := lev_op (b := b) (by omega) (by omega)
  rw [cst_g]
  unfold goP
  rw [if_neg d1, if_neg d2, if_neg d3, if_neg d4, if_neg (by omega), if_pos hb, ew_emA (by omega) U c hU]
  show (if lev (hdI W) = 3 then none else some ((ew 3 (emA U c) W).1, b :: (ew 3 (emA U c) W).2, 0, true, as)) = _
  rw [if_neg (by omega), ew_top hW]
theorem cl_st {c U W : List Int32} {dg : Nat} {as : Bool} (hU : ∀ s ∈ U, 1 ≤ lev s) : cst (c, U ++ nI 40 :: W, dg, false, as) (nI 41) = some (emA U c, W, 0, false, as) := by
  rw [cst_g]
  unfold goP
  rw [if_neg (by decide), if_pos rfl, ew_emA (show lev (hdI (nI 40 :: W)) < 1 from by show lev (nI 40) < 1; decide) U c hU]
  rfl
/-- behind a part nothing but what may follow -/
theorem go_none {c U W : List Int32} {dg : Nat} {as : Bool} {b : Int32} (hU : ∀ s ∈ U, 1 ≤ lev s) (hW : lev (hdI W) < 1) (h41 : ¬ (b = nI 41 ∧ hdI W = nI 40)) (h59 : ¬ (b = nI 59 ∧ W = [])) (h63 : ¬ (b = nI 63 ∧ as = false ∧ W = [])) (hd : pIn b (nI 48) (nI 57) → dg < 1 ∨ 3 < dg) (ho : 1 ≤ lev b → lev b ≤ 5 → lev b = 3 ∧ lev (hdI (ew 4 c (U ++ W)).2) = 3) : cst (c, U ++ W, dg, false, as) b = none := by
  rw [cst_g]
  unfold goP
  by_cases d1 : pIn b (nI 48) (nI 57)
  · rw [if_pos d1, if_pos (hd d1)]
  rw [if_neg d1]
  by_cases d2 : b = nI 41
  · rw [if_pos d2, ew_emA hW U c hU]
    cases W with
    | nil => rfl
    | cons s W2 =>
      show (if s = nI 40 then _ else none) = none
      have h9 : ¬ s = nI 40 := fun q => h41 ⟨d2, q⟩
      rw [if_neg h9]
  rw [if_neg d2]
  by_cases d3 : b = nI 59
  · rw [if_pos d3, ew_emA hW U c hU]
    show (if W = [] then _ else none) = none
    rw [if_neg (fun q => h59 ⟨d3, q⟩)]
  rw [if_neg d3]
  by_cases d4 : b = nI 63
  · rw [if_pos d4, ew_emA hW U c hU]
    show (if as = false ∧ W = [] then _ else none) = none
    rw [if_neg (fun q => h63 ⟨d4, q.1, q.2⟩)]
  rw [if_neg d4]
  by_cases d5 : lev b < 1 ∨ 5 < lev b
  · rw [if_pos d5]
  · rw [if_neg d5, if_pos (ho (by omega) (by omega)).1, if_pos (ho (by omega) (by omega)).2]
theorem wt_none {c W : List Int32} {dg : Nat} {as : Bool} {b : Int32} (h1 : ¬ pIn b (nI 48) (nI 57)) (h2 : ¬ 0 ≤ nam b) (h3 : ¬ (b = nI 40 ∨ b = nI 33 ∨ b = nI 45) ∨ ¬ oc W < 6) : cst (c, W, dg, true, as) b = none := by
  rw [cst_b, bgP, if_neg h1, if_neg h2]
  by_cases h : b = nI 40 ∨ b = nI 33 ∨ b = nI 45
  · rw [if_pos h, if_neg (h3.resolve_left (not_not_intro h))]
  · rw [if_neg h]
theorem nxO_dn {k : Nat} {t : Nat → Int32} {n p : Nat} {c W : List Int32} {dg : Nat} (h : nxO (k + 1) t n p c W dg) (hk : p < n → lev (t p) = k → lev (t p) = 3 ∧ lev (hdI (ew 4 c W).2) = 3) : nxO k t n p c W dg := by
  intro hp
  obtain ⟨h1, h2⟩ := h hp
  refine ⟨fun q1 q2 => ?_, h2⟩
  by_cases e : lev (t p) = k
  · exact hk hp e
  · exact h1 (by omega) q2
/-- the reference's reader: place, open, code, tape -/
def RfS (S : k_S) (t : Nat → Int32) (n p o : Nat) (m : List Int32) : Prop := S.1 2638 = nI p ∧ S.1 2639 = nI o ∧ S.1 2640 = nI 3 ∧ S.1 2641 = nI m.length ∧ S.1 2615 = nI n ∧ S.2.1 64 = t ∧ stk (fun i => S.2.1 65 (600 + i)) m
def FrP (S T : k_S) : Prop := (∀ k, k ≠ 2638 → k ≠ 2639 → k ≠ 2641 → T.1 k = S.1 k) ∧ (∀ a, a ≠ 65 → T.2.1 a = S.2.1 a) ∧ T.2.2 = S.2.2 ∧ ∀ i, i < 600 → T.2.1 65 i = S.2.1 65 i
theorem FrP.rf (S : k_S) : FrP S S := ⟨fun _ _ _ _ => rfl, fun _ _ => rfl, rfl, fun _ _ => rfl⟩
theorem FrP.tr {S T U : k_S} (h : FrP S T) (h2 : FrP T U) : FrP S U := ⟨fun k a b c => (h2.1 k a b c).trans (h.1 k a b c), fun a b => (h2.2.1 a b).trans (h.2.1 a b), h2.2.2.1.trans h.2.2.1, fun i hi => (h2.2.2.2 i hi).trans (h.2.2.2 i hi)⟩
theorem FrP.si {S T : k_S} (h : FrP S T) {k : Nat} (hk : k = 2638 ∨ k = 2639 ∨ k = 2641) (v : Int32) : FrP S (si T k v) := ⟨fun j a b c => (if_neg (fun q : j = k => by omega)).trans (h.1 j a b c), h.2.1, h.2.2.1, h.2.2.2⟩
def emS (S : k_S) (q : Nat) (x : Int32) : k_S := si (sa S 65 (va_up (S.2.1 65) (600 + q) x)) 2641 (nI (q + 1))
theorem FrP.em {S T : k_S} (h : FrP S T) (q : Nat) (x : Int32) : FrP S (emS T q x) := by
  refine ⟨fun j a b c => (if_neg c).trans (h.1 j a b c), fun a ha => (if_neg ha).trans (h.2.1 a ha), h.2.2.1, fun i hi => ?_⟩
  show va_up (T.2.1 65) (600 + q) x i = _
  rw [va_ne _ _ (by omega)]; exact h.2.2.2 i hi
theorem stk_cg {f g : Nat → Int32} : ∀ {l : List Int32}, (∀ i, i < l.length → f i = g i) → stk f l → stk g l
  | [], _, _ => trivial
  | v :: r, h, ⟨h1, h2⟩ => ⟨(h r.length (by simp)).symm.trans h1, stk_cg (fun i hi => h i (by simp only [List.length_cons]; omega)) h2⟩
theorem RfS.pl {S : k_S} {t : Nat → Int32} {n p o : Nat} {m : List Int32} (h : RfS S t n p o m) (p2 : Nat) : RfS (si S 2638 (nI p2)) t n p2 o m := ⟨rfl, h.2.1, h.2.2.1, h.2.2.2.1, h.2.2.2.2.1, h.2.2.2.2.2.1, h.2.2.2.2.2.2⟩
theorem RfS.op {S : k_S} {t : Nat → Int32} {n p o : Nat} {m : List Int32} (h : RfS S t n p o m) (o2 : Nat) : RfS (si S 2639 (nI o2)) t n p o2 m := ⟨h.1, rfl, h.2.2.1, h.2.2.2.1, h.2.2.2.2.1, h.2.2.2.2.2.1, h.2.2.2.2.2.2⟩
theorem RfS.em {S : k_S} {t : Nat → Int32} {n p o : Nat} {m : List Int32} (h : RfS S t n p o m) (x : Int32) : RfS (emS S m.length x) t n p o (x :: m) := by
  obtain ⟨h1, h2, h3, h4, h5, h6, h7⟩ := h
  refine ⟨h1, h2, h3, rfl, h5, h6, ?_, ?_⟩
  · show va_up (S.2.1 65) (600 + m.length) x (600 + m.length) = x
    rw [va_a1]
  · refine stk_cg (fun i hi => ?_) h7
    show S.2.1 65 (600 + i) = va_up (S.2.1 65) (600 + m.length) x (600 + i)
    rw [va_ne _ _ (by omega)]
/-- what stands behind a part that was read; where it failed -/
def PsT (k j : Nat) (t : Nat → Int32) (n p : Nat) (W : List Int32) (as : Bool) (m : List Int32) (S : k_S) : Prop := ∃ p' c' U dg' m', p < p' ∧ p' ≤ n ∧ crn t p' = some (c', U ++ W, dg', false, as) ∧ (∀ s ∈ U, k ≤ lev s) ∧ rlL (emA U c') m' ∧ RfS S t n p' (oc W) m' ∧ m'.length + p ≤ m.length + p' ∧ nxO j t n p' c' (U ++ W) dg'
def PsF (t : Nat → Int32) (n p : Nat) (m : List Int32) (S : k_S) : Prop := ∃ p' q, p ≤ p' ∧ p' ≤ n ∧ Flt t n p' ∧ S.1 2638 = nI p' ∧ S.1 2641 = nI q ∧ q + p ≤ m.length + p'
def PsR (S0 : k_S) (k : Nat) (t : Nat → Int32) (n p : Nat) (W : List Int32) (as : Bool) (m : List Int32) (g : Bool) (S : k_S) : Prop := FrP S0 S ∧ ((g = true ∧ PsT k k t n p W as m S) ∨ (g = false ∧ PsF t n p m S))
def RdQ (S0 : k_S) (k : Nat) (t : Nat → Int32) (n p : Nat) (W : List Int32) (as : Bool) (m : List Int32) : Option Value → k_H → Prop := fun r h' => ∃ g S', r = some (.int (b2i (g = true))) ∧ h' = hp S' ∧ PsR S0 k t n p W as m g S'
def RdP (S : k_S) (t : Nat → Int32) (n p : Nat) (c W : List Int32) (dg : Nat) (as : Bool) (m : List Int32) : Prop := n ≤ 120 ∧ p ≤ n ∧ crn t p = some (c, W, dg, true, as) ∧ rlL c m ∧ RfS S t n p (oc W) m ∧ m.length ≤ p
/-- a method reads what binds at least so close, with so many brackets left -/
def RdC (M : k_M) (k D f : Nat) : Prop := ∀ {S : k_S} {t : Nat → Int32} {n p : Nat} {c W : List Int32} {dg : Nat} {as : Bool} {m : List Int32}, RdP S t n p c W dg as m → (k ≤ 5 → lev (hdI W) < k) → oc W + f = 6 → Sp D 0 0 M [.ref 52] (hp S) (RdQ S k t n p W as m)
section KB
variable {X : k_X} {M : k_M} {d bc bs pc n : Nat} {L st : List Value} {h : k_H} {Po : Option Value → k_H → Prop}
theorem cVB {M' : k_M} {d' na ix a : Nat} {As rest : List Value} {Q : Bool → k_S → Prop} (hd : k_dc M pc (.invokevirtual ix) 3 n) (hl : Cond.methodLink M.1.cls ix M'.1 ∈ k_tG) (hw : k_mw M' na) (hw2 : Cond.instanceMethod M'.1 ∈ k_tG ∧ Cond.selects M'.1.cls M'.1 M'.1 ∈ k_tG) (hrc : ∃ (ci : Nat) (fs : List Value) (q : vw_C), h[a]? = some (.inr (ci, fs)) ∧ vwCl[ci]? = some q ∧ q.1 = M'.1.cls) (hpq : k_popn (na + 1) st [] = some (.ref a :: As, rest)) (hsp : Sp d' 0 0 M' (.ref a :: As) h (fun r h' => ∃ g S', r = some (.int (b2i (g = true))) ∧ h' = hp S' ∧ Q g S')) (hdd : d' < d) (hct : (rest.map fun v => v.category).sum ≤ 8) (k : ∀ g S', Q g S' → AW X M d bc bs n L (.int (b2i (g = true)) :: rest) (hp S') Po) : AW X M d bc bs pc L st h Po := by
  obtain ⟨ci, fs, q, hq1, hq2, hq3⟩ := hrc
  refine k_callV hd hl hw hw2 ⟨hq1, q, hq2, hq3⟩ hpq hsp hdd ⟨(Nat.zero_add _).symm, (Nat.zero_add _).symm⟩ hct ?_
  rintro r h' ⟨g, S', rfl, rfl, hQ⟩
  exact k g S' hQ
end KB
set_option maxHeartbeats 400000 in
theorem pX12_here {S : k_S} {t : Nat → Int32} {n p o : Nat} {m : List Int32} (hR : RfS S t n p o m) (hn : n ≤ 120) (hpn : p ≤ n) : Sp 0 0 0 MX12_here [.ref 52] (hp S) (Rt (some (.int (hrV t n p))) (hp S)) := by
  refine Sp_of (by decide +kernel) (Nat.le_of_ble_eq_true rfl) ?_
  show AW none MX12_here 0 0 0 0 [.ref 52] [] (hp S) _
  refine k_aload_n eX12_here_0 rfl ?_
  refine GX12_206 eX12_here_1 rfl ?_
  refine k_topi (nI p) hR.1 ?_
  refine k_aload_n eX12_here_4 rfl ?_
  refine GX12_203 eX12_here_5 rfl ?_
  refine k_topi (nI n) hR.2.2.2.2.1 ?_
  refine k_icmp_geN 23 eX12_here_8 (by decide) (by omega) (by omega) (fun c_8 => ?_) (fun c_8 => ?_)
  · refine k_iconst (v := (-1)) eX12_here_23 (by decide) ?_
    refine k_ireturn eX12_here_24 rfl rfl ?_
    exact ⟨by rw [hrV, if_neg (by omega)], rfl⟩
  refine k_aload_n eX12_here_11 rfl ?_
  refine GX12_47 eX12_here_12 rfl ?_
  refine k_aload_n eX12_here_15 rfl ?_
  refine GX12_206 eX12_here_16 rfl ?_
  refine k_topi (nI p) hR.1 ?_
  refine k_ialdN (j := p) eX12_here_19 (ar64 _) (by omega) (Nat.le_of_ble_eq_true rfl) ?_
  refine k_topi ((t p)) (congrFun hR.2.2.2.2.2.1 p) ?_
  refine k_goto 24 eX12_here_20 (by decide) ?_
  refine k_ireturn eX12_here_24 rfl rfl ?_
  exact ⟨by rw [hrV, if_pos (by omega)], rfl⟩
set_option maxHeartbeats 400000 in
theorem pX12_emits {S : k_S} {q : Nat} (h3 : S.1 2640 = nI 3) (hq : S.1 2641 = nI q) (hq2 : q < 200) (x : Int32) : Sp 0 0 0 MX12_emits [.ref 52, .int (x)] (hp S) (Rt (none) (hp (emS S q x))) := by
  refine Sp_of (by decide +kernel) (Nat.le_of_ble_eq_true rfl) ?_
  show AW none MX12_emits 0 0 0 0 [.ref 52, .int (x)] [] (hp S) _
  refine k_aload_n eX12_emits_0 rfl ?_
  refine GX12_50 eX12_emits_1 rfl ?_
  refine k_sipush (v := nI 200) eX12_emits_4 (by decide) ?_
  refine k_aload_n eX12_emits_7 rfl ?_
  refine GX12_209 eX12_emits_8 rfl ?_
  refine k_topi (nI 3) h3 ?_
  refine k_imulN eX12_emits_11 ?_
  refine k_aload_n eX12_emits_12 rfl ?_
  refine GX12_212 eX12_emits_13 rfl ?_
  refine k_topi (nI q) hq ?_
  refine k_iaddN eX12_emits_16 ?_
  refine k_iload_n eX12_emits_17 rfl ?_
  refine k_iastN (j := (600 + q)) eX12_emits_18 (ar65 _) (by omega) (Nat.le_of_ble_eq_true rfl) (as65 _ _) ?_
  refine k_aload_n eX12_emits_19 rfl ?_
  refine k_dup eX12_emits_20 rfl ?_
  refine GX12_212 eX12_emits_21 rfl ?_
  refine k_topi (nI q) hq ?_
  refine k_iconst (v := nI 1) eX12_emits_24 (by decide) ?_
  refine k_iaddN eX12_emits_25 ?_
  refine PX12_212 eX12_emits_26 rfl ?_
  refine k_return eX12_emits_29 rfl ?_
  exact ⟨rfl, rfl⟩
set_option maxHeartbeats 400000 in
theorem pX12_nameOf100 {h : k_H} : Sp 0 0 0 MX12_nameOf [.int (nI 100)] h (Rt (some (.int (nam (nI 100)))) (h)) := by
  refine Sp_of (by decide +kernel) (Nat.le_of_ble_eq_true rfl) ?_
  show AW none MX12_nameOf 0 0 0 0 [.int (nI 100)] [] h _
  refine k_iload_n eX12_nameOf_0 rfl ?_
  refine k_tabIn 104 (off := 103) eX12_nameOf_1 (by decide) (by decide) (by decide) (by decide) ?_
  refine k_iconst (v := nI 4) eX12_nameOf_104 (by decide) ?_
  refine k_ireturn eX12_nameOf_105 rfl rfl ?_
  exact ⟨by decide, rfl⟩
set_option maxHeartbeats 400000 in
theorem pX12_nameOf101 {h : k_H} : Sp 0 0 0 MX12_nameOf [.int (nI 101)] h (Rt (some (.int (nam (nI 101)))) (h)) := by
  refine Sp_of (by decide +kernel) (Nat.le_of_ble_eq_true rfl) ?_
  show AW none MX12_nameOf 0 0 0 0 [.int (nI 101)] [] h _
  refine k_iload_n eX12_nameOf_0 rfl ?_
  refine k_tabIn 111 (off := 110) eX12_nameOf_1 (by decide) (by decide) (by decide) (by decide) ?_
  refine k_iconst (v := (-1)) eX12_nameOf_111 (by decide) ?_
  refine k_ireturn eX12_nameOf_112 rfl rfl ?_
  exact ⟨by decide, rfl⟩
set_option maxHeartbeats 400000 in
theorem pX12_nameOf102 {h : k_H} : Sp 0 0 0 MX12_nameOf [.int (nI 102)] h (Rt (some (.int (nam (nI 102)))) (h)) := by
  refine Sp_of (by decide +kernel) (Nat.le_of_ble_eq_true rfl) ?_
  show AW none MX12_nameOf 0 0 0 0 [.int (nI 102)] [] h _
  refine k_iload_n eX12_nameOf_0 rfl ?_
  refine k_tabIn 111 (off := 110) eX12_nameOf_1 (by decide) (by decide) (by decide) (by decide) ?_
  refine k_iconst (v := (-1)) eX12_nameOf_111 (by decide) ?_
  refine k_ireturn eX12_nameOf_112 rfl rfl ?_
  exact ⟨by decide, rfl⟩
set_option maxHeartbeats 400000 in
theorem pX12_nameOf103 {h : k_H} : Sp 0 0 0 MX12_nameOf [.int (nI 103)] h (Rt (some (.int (nam (nI 103)))) (h)) := by
  refine Sp_of (by decide +kernel) (Nat.le_of_ble_eq_true rfl) ?_
  show AW none MX12_nameOf 0 0 0 0 [.int (nI 103)] [] h _
  refine k_iload_n eX12_nameOf_0 rfl ?_
  refine k_tabIn 108 (off := 107) eX12_nameOf_1 (by decide) (by decide) (by decide) (by decide) ?_
  refine k_bipush (v := nI 6) eX12_nameOf_108 (by decide) ?_
  refine k_ireturn eX12_nameOf_110 rfl rfl ?_
  exact ⟨by decide, rfl⟩
set_option maxHeartbeats 400000 in
theorem pX12_nameOf104 {h : k_H} : Sp 0 0 0 MX12_nameOf [.int (nI 104)] h (Rt (some (.int (nam (nI 104)))) (h)) := by
  refine Sp_of (by decide +kernel) (Nat.le_of_ble_eq_true rfl) ?_
  show AW none MX12_nameOf 0 0 0 0 [.int (nI 104)] [] h _
  refine k_iload_n eX12_nameOf_0 rfl ?_
  refine k_tabIn 111 (off := 110) eX12_nameOf_1 (by decide) (by decide) (by decide) (by decide) ?_
  refine k_iconst (v := (-1)) eX12_nameOf_111 (by decide) ?_
  refine k_ireturn eX12_nameOf_112 rfl rfl ?_
  exact ⟨by decide, rfl⟩
set_option maxHeartbeats 400000 in
theorem pX12_nameOf105 {h : k_H} : Sp 0 0 0 MX12_nameOf [.int (nI 105)] h (Rt (some (.int (nam (nI 105)))) (h)) := by
  refine Sp_of (by decide +kernel) (Nat.le_of_ble_eq_true rfl) ?_
  show AW none MX12_nameOf 0 0 0 0 [.int (nI 105)] [] h _
  refine k_iload_n eX12_nameOf_0 rfl ?_
  refine k_tabIn 111 (off := 110) eX12_nameOf_1 (by decide) (by decide) (by decide) (by decide) ?_
  refine k_iconst (v := (-1)) eX12_nameOf_111 (by decide) ?_
  refine k_ireturn eX12_nameOf_112 rfl rfl ?_
  exact ⟨by decide, rfl⟩
set_option maxHeartbeats 400000 in
theorem pX12_nameOf106 {h : k_H} : Sp 0 0 0 MX12_nameOf [.int (nI 106)] h (Rt (some (.int (nam (nI 106)))) (h)) := by
  refine Sp_of (by decide +kernel) (Nat.le_of_ble_eq_true rfl) ?_
  show AW none MX12_nameOf 0 0 0 0 [.int (nI 106)] [] h _
  refine k_iload_n eX12_nameOf_0 rfl ?_
  refine k_tabIn 102 (off := 101) eX12_nameOf_1 (by decide) (by decide) (by decide) (by decide) ?_
  refine k_iconst (v := nI 3) eX12_nameOf_102 (by decide) ?_
  refine k_ireturn eX12_nameOf_103 rfl rfl ?_
  exact ⟨by decide, rfl⟩
set_option maxHeartbeats 400000 in
theorem pX12_nameOf107 {h : k_H} : Sp 0 0 0 MX12_nameOf [.int (nI 107)] h (Rt (some (.int (nam (nI 107)))) (h)) := by
  refine Sp_of (by decide +kernel) (Nat.le_of_ble_eq_true rfl) ?_
  show AW none MX12_nameOf 0 0 0 0 [.int (nI 107)] [] h _
  refine k_iload_n eX12_nameOf_0 rfl ?_
  refine k_tabIn 111 (off := 110) eX12_nameOf_1 (by decide) (by decide) (by decide) (by decide) ?_
  refine k_iconst (v := (-1)) eX12_nameOf_111 (by decide) ?_
  refine k_ireturn eX12_nameOf_112 rfl rfl ?_
  exact ⟨by decide, rfl⟩
set_option maxHeartbeats 400000 in
theorem pX12_nameOf108 {h : k_H} : Sp 0 0 0 MX12_nameOf [.int (nI 108)] h (Rt (some (.int (nam (nI 108)))) (h)) := by
  refine Sp_of (by decide +kernel) (Nat.le_of_ble_eq_true rfl) ?_
  show AW none MX12_nameOf 0 0 0 0 [.int (nI 108)] [] h _
  refine k_iload_n eX12_nameOf_0 rfl ?_
  refine k_tabIn 106 (off := 105) eX12_nameOf_1 (by decide) (by decide) (by decide) (by decide) ?_
  refine k_iconst (v := nI 5) eX12_nameOf_106 (by decide) ?_
  refine k_ireturn eX12_nameOf_107 rfl rfl ?_
  exact ⟨by decide, rfl⟩
set_option maxHeartbeats 400000 in
theorem pX12_nameOf109 {h : k_H} : Sp 0 0 0 MX12_nameOf [.int (nI 109)] h (Rt (some (.int (nam (nI 109)))) (h)) := by
  refine Sp_of (by decide +kernel) (Nat.le_of_ble_eq_true rfl) ?_
  show AW none MX12_nameOf 0 0 0 0 [.int (nI 109)] [] h _
  refine k_iload_n eX12_nameOf_0 rfl ?_
  refine k_tabIn 111 (off := 110) eX12_nameOf_1 (by decide) (by decide) (by decide) (by decide) ?_
  refine k_iconst (v := (-1)) eX12_nameOf_111 (by decide) ?_
  refine k_ireturn eX12_nameOf_112 rfl rfl ?_
  exact ⟨by decide, rfl⟩
set_option maxHeartbeats 400000 in
theorem pX12_nameOf110 {h : k_H} : Sp 0 0 0 MX12_nameOf [.int (nI 110)] h (Rt (some (.int (nam (nI 110)))) (h)) := by
  refine Sp_of (by decide +kernel) (Nat.le_of_ble_eq_true rfl) ?_
  show AW none MX12_nameOf 0 0 0 0 [.int (nI 110)] [] h _
  refine k_iload_n eX12_nameOf_0 rfl ?_
  refine k_tabIn 111 (off := 110) eX12_nameOf_1 (by decide) (by decide) (by decide) (by decide) ?_
  refine k_iconst (v := (-1)) eX12_nameOf_111 (by decide) ?_
  refine k_ireturn eX12_nameOf_112 rfl rfl ?_
  exact ⟨by decide, rfl⟩
set_option maxHeartbeats 400000 in
theorem pX12_nameOf111 {h : k_H} : Sp 0 0 0 MX12_nameOf [.int (nI 111)] h (Rt (some (.int (nam (nI 111)))) (h)) := by
  refine Sp_of (by decide +kernel) (Nat.le_of_ble_eq_true rfl) ?_
  show AW none MX12_nameOf 0 0 0 0 [.int (nI 111)] [] h _
  refine k_iload_n eX12_nameOf_0 rfl ?_
  refine k_tabIn 111 (off := 110) eX12_nameOf_1 (by decide) (by decide) (by decide) (by decide) ?_
  refine k_iconst (v := (-1)) eX12_nameOf_111 (by decide) ?_
  refine k_ireturn eX12_nameOf_112 rfl rfl ?_
  exact ⟨by decide, rfl⟩
set_option maxHeartbeats 400000 in
theorem pX12_nameOf112 {h : k_H} : Sp 0 0 0 MX12_nameOf [.int (nI 112)] h (Rt (some (.int (nam (nI 112)))) (h)) := by
  refine Sp_of (by decide +kernel) (Nat.le_of_ble_eq_true rfl) ?_
  show AW none MX12_nameOf 0 0 0 0 [.int (nI 112)] [] h _
  refine k_iload_n eX12_nameOf_0 rfl ?_
  refine k_tabIn 111 (off := 110) eX12_nameOf_1 (by decide) (by decide) (by decide) (by decide) ?_
  refine k_iconst (v := (-1)) eX12_nameOf_111 (by decide) ?_
  refine k_ireturn eX12_nameOf_112 rfl rfl ?_
  exact ⟨by decide, rfl⟩
set_option maxHeartbeats 400000 in
theorem pX12_nameOf113 {h : k_H} : Sp 0 0 0 MX12_nameOf [.int (nI 113)] h (Rt (some (.int (nam (nI 113)))) (h)) := by
  refine Sp_of (by decide +kernel) (Nat.le_of_ble_eq_true rfl) ?_
  show AW none MX12_nameOf 0 0 0 0 [.int (nI 113)] [] h _
  refine k_iload_n eX12_nameOf_0 rfl ?_
  refine k_tabIn 111 (off := 110) eX12_nameOf_1 (by decide) (by decide) (by decide) (by decide) ?_
  refine k_iconst (v := (-1)) eX12_nameOf_111 (by decide) ?_
  refine k_ireturn eX12_nameOf_112 rfl rfl ?_
  exact ⟨by decide, rfl⟩
set_option maxHeartbeats 400000 in
theorem pX12_nameOf114 {h : k_H} : Sp 0 0 0 MX12_nameOf [.int (nI 114)] h (Rt (some (.int (nam (nI 114)))) (h)) := by
  refine Sp_of (by decide +kernel) (Nat.le_of_ble_eq_true rfl) ?_
  show AW none MX12_nameOf 0 0 0 0 [.int (nI 114)] [] h _
  refine k_iload_n eX12_nameOf_0 rfl ?_
  refine k_tabIn 111 (off := 110) eX12_nameOf_1 (by decide) (by decide) (by decide) (by decide) ?_
  refine k_iconst (v := (-1)) eX12_nameOf_111 (by decide) ?_
  refine k_ireturn eX12_nameOf_112 rfl rfl ?_
  exact ⟨by decide, rfl⟩
set_option maxHeartbeats 400000 in
theorem pX12_nameOf115 {h : k_H} : Sp 0 0 0 MX12_nameOf [.int (nI 115)] h (Rt (some (.int (nam (nI 115)))) (h)) := by
  refine Sp_of (by decide +kernel) (Nat.le_of_ble_eq_true rfl) ?_
  show AW none MX12_nameOf 0 0 0 0 [.int (nI 115)] [] h _
  refine k_iload_n eX12_nameOf_0 rfl ?_
  refine k_tabIn 98 (off := 97) eX12_nameOf_1 (by decide) (by decide) (by decide) (by decide) ?_
  refine k_iconst (v := nI 1) eX12_nameOf_98 (by decide) ?_
  refine k_ireturn eX12_nameOf_99 rfl rfl ?_
  exact ⟨by decide, rfl⟩
set_option maxHeartbeats 400000 in
theorem pX12_nameOf116 {h : k_H} : Sp 0 0 0 MX12_nameOf [.int (nI 116)] h (Rt (some (.int (nam (nI 116)))) (h)) := by
  refine Sp_of (by decide +kernel) (Nat.le_of_ble_eq_true rfl) ?_
  show AW none MX12_nameOf 0 0 0 0 [.int (nI 116)] [] h _
  refine k_iload_n eX12_nameOf_0 rfl ?_
  refine k_tabIn 96 (off := 95) eX12_nameOf_1 (by decide) (by decide) (by decide) (by decide) ?_
  refine k_iconst (v := nI 0) eX12_nameOf_96 (by decide) ?_
  refine k_ireturn eX12_nameOf_97 rfl rfl ?_
  exact ⟨by decide, rfl⟩
set_option maxHeartbeats 400000 in
theorem pX12_nameOf117 {h : k_H} : Sp 0 0 0 MX12_nameOf [.int (nI 117)] h (Rt (some (.int (nam (nI 117)))) (h)) := by
  refine Sp_of (by decide +kernel) (Nat.le_of_ble_eq_true rfl) ?_
  show AW none MX12_nameOf 0 0 0 0 [.int (nI 117)] [] h _
  refine k_iload_n eX12_nameOf_0 rfl ?_
  refine k_tabIn 111 (off := 110) eX12_nameOf_1 (by decide) (by decide) (by decide) (by decide) ?_
  refine k_iconst (v := (-1)) eX12_nameOf_111 (by decide) ?_
  refine k_ireturn eX12_nameOf_112 rfl rfl ?_
  exact ⟨by decide, rfl⟩
set_option maxHeartbeats 400000 in
theorem pX12_nameOf118 {h : k_H} : Sp 0 0 0 MX12_nameOf [.int (nI 118)] h (Rt (some (.int (nam (nI 118)))) (h)) := by
  refine Sp_of (by decide +kernel) (Nat.le_of_ble_eq_true rfl) ?_
  show AW none MX12_nameOf 0 0 0 0 [.int (nI 118)] [] h _
  refine k_iload_n eX12_nameOf_0 rfl ?_
  refine k_tabIn 111 (off := 110) eX12_nameOf_1 (by decide) (by decide) (by decide) (by decide) ?_
  refine k_iconst (v := (-1)) eX12_nameOf_111 (by decide) ?_
  refine k_ireturn eX12_nameOf_112 rfl rfl ?_
  exact ⟨by decide, rfl⟩
set_option maxHeartbeats 400000 in
theorem pX12_nameOf119 {h : k_H} : Sp 0 0 0 MX12_nameOf [.int (nI 119)] h (Rt (some (.int (nam (nI 119)))) (h)) := by
  refine Sp_of (by decide +kernel) (Nat.le_of_ble_eq_true rfl) ?_
  show AW none MX12_nameOf 0 0 0 0 [.int (nI 119)] [] h _
  refine k_iload_n eX12_nameOf_0 rfl ?_
  refine k_tabIn 100 (off := 99) eX12_nameOf_1 (by decide) (by decide) (by decide) (by decide) ?_
  refine k_iconst (v := nI 2) eX12_nameOf_100 (by decide) ?_
  refine k_ireturn eX12_nameOf_101 rfl rfl ?_
  exact ⟨by decide, rfl⟩
set_option maxHeartbeats 400000 in
theorem pX12_nameOfN {h : k_H} (x : Int32) (hx : x.toInt < 100 ∨ 119 < x.toInt) : Sp 0 0 0 MX12_nameOf [.int (x)] h (Rt (some (.int (-1))) (h)) := by
  refine Sp_of (by decide +kernel) (Nat.le_of_ble_eq_true rfl) ?_
  show AW none MX12_nameOf 0 0 0 0 [.int (x)] [] h _
  refine k_iload_n eX12_nameOf_0 rfl ?_
  refine k_tabOut 111 eX12_nameOf_1 hx (by decide) ?_
  refine k_iconst (v := (-1)) eX12_nameOf_111 (by decide) ?_
  refine k_ireturn eX12_nameOf_112 rfl rfl ?_
  exact ⟨rfl, rfl⟩
theorem pX12_nameOf {h : k_H} (x : Int32) : Sp 0 0 0 MX12_nameOf [.int x] h (Rt (some (.int (nam x))) h) := by
  by_cases c : x.toInt < 100 ∨ 119 < x.toInt
  · have e : nam x = -1 := by
      unfold nam
      rw [if_neg (fun q => by rw [q] at c; exact absurd c (by decide)), if_neg (fun q => by rw [q] at c; exact absurd c (by decide)), if_neg (fun q => by rw [q] at c; exact absurd c (by decide)), if_neg (fun q => by rw [q] at c; exact absurd c (by decide)), if_neg (fun q => by rw [q] at c; exact absurd c (by decide)), if_neg (fun q => by rw [q] at c; exact absurd c (by decide)), if_neg (fun q => by rw [q] at c; exact absurd c (by decide))]
    rw [e]; exact pX12_nameOfN x c
  · obtain ⟨k, hk, rfl⟩ := k_rngle (n := 119) (x := x) (Int32.le_iff_toInt_le.mpr (by rw [nI_toInt (by omega)]; omega)) (Int32.le_iff_toInt_le.mpr (by rw [nI_toInt (by omega)]; omega)) (by decide)
    rw [nI_toInt (by omega)] at c
    rcases (by omega : k = 100 ∨ k = 101 ∨ k = 102 ∨ k = 103 ∨ k = 104 ∨ k = 105 ∨ k = 106 ∨ k = 107 ∨ k = 108 ∨ k = 109 ∨ k = 110 ∨ k = 111 ∨ k = 112 ∨ k = 113 ∨ k = 114 ∨ k = 115 ∨ k = 116 ∨ k = 117 ∨ k = 118 ∨ k = 119) with rfl | rfl | rfl | rfl | rfl | rfl | rfl | rfl | rfl | rfl | rfl | rfl | rfl | rfl | rfl | rfl | rfl | rfl | rfl | rfl
    · exact pX12_nameOf100
    · exact pX12_nameOf101
    · exact pX12_nameOf102
    · exact pX12_nameOf103
    · exact pX12_nameOf104
    · exact pX12_nameOf105
    · exact pX12_nameOf106
    · exact pX12_nameOf107
    · exact pX12_nameOf108
    · exact pX12_nameOf109
    · exact pX12_nameOf110
    · exact pX12_nameOf111
    · exact pX12_nameOf112
    · exact pX12_nameOf113
    · exact pX12_nameOf114
    · exact pX12_nameOf115
    · exact pX12_nameOf116
    · exact pX12_nameOf117
    · exact pX12_nameOf118
    · exact pX12_nameOf119
theorem hr_dig {t : Nat → Int32} {n p : Nat} (h : pIn (hrV t n p) (nI 48) (nI 57)) : p < n ∧ ∃ d, d ≤ 9 ∧ t p = nI (48 + d) := by
  rw [hrV] at h
  by_cases c : p < n
  · rw [if_pos c] at h
    obtain ⟨k, hk, e⟩ := k_rngle (n := 57) (x := t p) (Int32.le_trans (by decide) h.1) h.2 (by decide)
    have q := Int32.le_iff_toInt_le.mp h.1
    rw [e, nI_toInt (by omega), nI_toInt (by omega)] at q
    exact ⟨c, k - 48, by omega, by rw [e]; congr 1; omega⟩
  · rw [if_neg c] at h; exact absurd h.1 (by decide)
theorem dig_b {c W : List Int32} {dg d : Nat} {as : Bool} (hd : d ≤ 9) : cst (c, W, dg, true, as) (nI (48 + d)) = some (nI d :: c, W, 1, false, as) := by
  rw [cst_b, bgP, if_pos ⟨nI_le (by omega) (by omega), nI_le (by omega) (by omega)⟩, pk_sub (by omega), Nat.add_sub_cancel_left]
theorem dig_g {c W : List Int32} {i v d : Nat} {as : Bool} (hd : d ≤ 9) (h1 : 1 ≤ i) (h3 : i ≤ 3) : cst (nI v :: c, W, i, false, as) (nI (48 + d)) = some (nI (10 * v + d) :: c, W, i + 1, false, as) := by
  rw [cst_g]
  unfold goP
  rw [if_pos ⟨nI_le (by omega) (by omega), nI_le (by omega) (by omega)⟩, if_neg (by omega)]
  show some ((nI v * nI 10 + (nI (48 + d) - nI 48)) :: c, W, i + 1, false, as) = _
  rw [pk_sub (by omega), Nat.add_sub_cancel_left, pk_mul, nI_add, Nat.mul_comm v 10]
set_option maxHeartbeats 400000 in
theorem lX12_readsNumber {d0 : Nat} (hdd : 1 ≤ d0) {S0 : k_S} {t : Nat → Int32} {n p : Nat} {c W : List Int32} {dg : Nat} {as : Bool} {m : List Int32} (hn : n ≤ 120) (hc : crn t p = some (c, W, dg, true, as)) (hd : p < n ∧ pIn (t p) (nI 48) (nI 57)) (hml : m.length ≤ p) (hrl : rlL c m) : ∀ (k i v : Nat) (S : k_S), i + k = 4 → v < 10 ^ i → (i = 0 ∨ crn t (p + i) = some (nI v :: c, W, i, false, as)) → (i = 0 → v = 0) → RfS S t n (p + i) (oc W) m → p + i ≤ n → FrP S0 S → AW none MX12_readsNumber d0 0 0 4 [.ref 52, .int (nI v), .int (nI i)] [] (hp S) (RdQ S0 6 t n p W as m) := by
  intro k
  induction k with
  | zero =>
    intro i v S hik hv hst hv0 hR hpn hF
    refine k_aload_n eX12_readsNumber_4 rfl ?_
    refine cV1 (M' := MX12_here) eX12_readsNumber_5 mX12_215 wX12_here vX12_here ⟨_, _, _, rfl, rfl, rfl⟩ rfl (pX12_here (S := S) hR hn (by omega)) (by omega) (Nat.le_of_ble_eq_true rfl) ?_
    refine k_bipush (v := nI 48) eX12_readsNumber_8 (by decide) ?_
    refine k_bipush (v := nI 57) eX12_readsNumber_10 (by decide) ?_
    refine cS1 (M' := MX12_in) eX12_readsNumber_12 mX12_120 wX12_in sX12_in rfl (pX12_in ((hrV t n (p + i))) (nI 48) (nI 57)) (by omega) (Nat.le_of_ble_eq_true rfl) ?_
    refine k_ifb_eq 52 eX12_readsNumber_15 (by decide) (fun c_15 => ?_) (fun c_15 => ?_)
    · refine k_aload_n eX12_readsNumber_52 rfl ?_
      refine k_ldc eX12_readsNumber_53 kX12_218 rfl ?_
      refine k_topi (nI 100000) (by decide) ?_
      refine k_iload_n eX12_readsNumber_55 rfl ?_
      refine k_iaddN eX12_readsNumber_56 ?_
      refine cV0 (M' := MX12_emits) eX12_readsNumber_57 mX12_219 wX12_emits vX12_emits ⟨_, _, _, rfl, rfl, rfl⟩ rfl (pX12_emits (S := S) (q := m.length) hR.2.2.1 hR.2.2.2.1 (by omega) (nI (100000 + v))) (by omega) (Nat.le_of_ble_eq_true rfl) ?_
      refine k_iconst (v := nI 1) eX12_readsNumber_60 (by decide) ?_
      refine k_ireturn eX12_readsNumber_61 rfl rfl ?_
      have hi1 : i ≠ 0 := by
        intro q
        subst q
        first
        | exact c_15 (by rw [Nat.add_zero, hr_p hd.1]; exact hd.2)
        | omega
      have hci := hst.resolve_left hi1
      have hp4 : 10 ^ i ≤ 10 ^ 4 := Nat.pow_le_pow_right (by decide) (by omega)
      refine ⟨true, _, rt_t rfl, rfl, hF.em _ _, Or.inl ⟨rfl, p + i, nI v :: c, [], i, nI (100000 + v) :: m, by omega, hpn, hci, (fun s hs => by cases hs), ⟨Or.inl ⟨v, by omega, rfl, rfl⟩, hrl⟩, hR.em _, by simp only [List.length_cons]; omega, fun hp => ⟨fun q1 q2 => absurd q1 (by omega), fun q => ?_⟩⟩⟩
      first
      | (exfalso; exact c_15 (by rw [hr_p hp]; exact q))
      | exact Or.inr (by omega)
    refine k_iload_n eX12_readsNumber_18 rfl ?_
    refine k_iconst (v := nI 4) eX12_readsNumber_19 (by decide) ?_
    refine k_icmp_geN 52 eX12_readsNumber_20 (by decide) (by omega) (by omega) (fun c_20 => ?_) (fun c_20 => by exfalso; omega)
    refine k_aload_n eX12_readsNumber_52 rfl ?_
    refine k_ldc eX12_readsNumber_53 kX12_218 rfl ?_
    refine k_topi (nI 100000) (by decide) ?_
    refine k_iload_n eX12_readsNumber_55 rfl ?_
    refine k_iaddN eX12_readsNumber_56 ?_
    refine cV0 (M' := MX12_emits) eX12_readsNumber_57 mX12_219 wX12_emits vX12_emits ⟨_, _, _, rfl, rfl, rfl⟩ rfl (pX12_emits (S := S) (q := m.length) hR.2.2.1 hR.2.2.2.1 (by omega) (nI (100000 + v))) (by omega) (Nat.le_of_ble_eq_true rfl) ?_
    refine k_iconst (v := nI 1) eX12_readsNumber_60 (by decide) ?_
    refine k_ireturn eX12_readsNumber_61 rfl rfl ?_
    have hi1 : i ≠ 0 := by
      intro q
      subst q
      first
      | exact c_15 (by rw [Nat.add_zero, hr_p hd.1]; exact hd.2)
      | omega
    have hci := hst.resolve_left hi1
    have hp4 : 10 ^ i ≤ 10 ^ 4 := Nat.pow_le_pow_right (by decide) (by omega)
    refine ⟨true, _, rt_t rfl, rfl, hF.em _ _, Or.inl ⟨rfl, p + i, nI v :: c, [], i, nI (100000 + v) :: m, by omega, hpn, hci, (fun s hs => by cases hs), ⟨Or.inl ⟨v, by omega, rfl, rfl⟩, hrl⟩, hR.em _, by simp only [List.length_cons]; omega, fun hp => ⟨fun q1 q2 => absurd q1 (by omega), fun q => ?_⟩⟩⟩
    first
    | (exfalso; exact c_15 (by rw [hr_p hp]; exact q))
    | exact Or.inr (by omega)
  | succ k ih =>
    intro i v S hik hv hst hv0 hR hpn hF
    refine k_aload_n eX12_readsNumber_4 rfl ?_
    refine cV1 (M' := MX12_here) eX12_readsNumber_5 mX12_215 wX12_here vX12_here ⟨_, _, _, rfl, rfl, rfl⟩ rfl (pX12_here (S := S) hR hn (by omega)) (by omega) (Nat.le_of_ble_eq_true rfl) ?_
    refine k_bipush (v := nI 48) eX12_readsNumber_8 (by decide) ?_
    refine k_bipush (v := nI 57) eX12_readsNumber_10 (by decide) ?_
    refine cS1 (M' := MX12_in) eX12_readsNumber_12 mX12_120 wX12_in sX12_in rfl (pX12_in ((hrV t n (p + i))) (nI 48) (nI 57)) (by omega) (Nat.le_of_ble_eq_true rfl) ?_
    refine k_ifb_eq 52 eX12_readsNumber_15 (by decide) (fun c_15 => ?_) (fun c_15 => ?_)
    · refine k_aload_n eX12_readsNumber_52 rfl ?_
      refine k_ldc eX12_readsNumber_53 kX12_218 rfl ?_
      refine k_topi (nI 100000) (by decide) ?_
      refine k_iload_n eX12_readsNumber_55 rfl ?_
      refine k_iaddN eX12_readsNumber_56 ?_
      refine cV0 (M' := MX12_emits) eX12_readsNumber_57 mX12_219 wX12_emits vX12_emits ⟨_, _, _, rfl, rfl, rfl⟩ rfl (pX12_emits (S := S) (q := m.length) hR.2.2.1 hR.2.2.2.1 (by omega) (nI (100000 + v))) (by omega) (Nat.le_of_ble_eq_true rfl) ?_
      refine k_iconst (v := nI 1) eX12_readsNumber_60 (by decide) ?_
      refine k_ireturn eX12_readsNumber_61 rfl rfl ?_
      have hi1 : i ≠ 0 := by
        intro q
        subst q
        first
        | exact c_15 (by rw [Nat.add_zero, hr_p hd.1]; exact hd.2)
        | omega
      have hci := hst.resolve_left hi1
      have hp4 : 10 ^ i ≤ 10 ^ 4 := Nat.pow_le_pow_right (by decide) (by omega)
      refine ⟨true, _, rt_t rfl, rfl, hF.em _ _, Or.inl ⟨rfl, p + i, nI v :: c, [], i, nI (100000 + v) :: m, by omega, hpn, hci, (fun s hs => by cases hs), ⟨Or.inl ⟨v, by omega, rfl, rfl⟩, hrl⟩, hR.em _, by simp only [List.length_cons]; omega, fun hp => ⟨fun q1 q2 => absurd q1 (by omega), fun q => ?_⟩⟩⟩
      first
      | (exfalso; exact c_15 (by rw [hr_p hp]; exact q))
      | exact Or.inr (by omega)
    refine k_iload_n eX12_readsNumber_18 rfl ?_
    refine k_iconst (v := nI 4) eX12_readsNumber_19 (by decide) ?_
    refine k_icmp_geN 52 eX12_readsNumber_20 (by decide) (by omega) (by omega) (fun c_20 => by exfalso; omega) (fun c_20 => ?_)
    refine k_bipush (v := nI 10) eX12_readsNumber_23 (by decide) ?_
    refine k_iload_n eX12_readsNumber_25 rfl ?_
    refine k_imulN eX12_readsNumber_26 ?_
    refine k_aload_n eX12_readsNumber_27 rfl ?_
    refine cV1 (M' := MX12_here) eX12_readsNumber_28 mX12_215 wX12_here vX12_here ⟨_, _, _, rfl, rfl, rfl⟩ rfl (pX12_here (S := S) hR hn (by omega)) (by omega) (Nat.le_of_ble_eq_true rfl) ?_
    refine k_iadd eX12_readsNumber_31 ?_
    refine k_bipush (v := nI 48) eX12_readsNumber_32 (by decide) ?_
    refine k_isub eX12_readsNumber_34 ?_
    refine k_istore_n (L2 := [_, _, _]) eX12_readsNumber_35 (Nat.le_of_ble_eq_true rfl) rfl ?_
    refine k_iincN (g := 1) (a := i) (L2 := [_, _, _]) eX12_readsNumber_36 (Nat.le_of_ble_eq_true rfl) rfl rfl ?_
    refine k_aload_n eX12_readsNumber_39 rfl ?_
    refine k_dup eX12_readsNumber_40 rfl ?_
    refine GX12_206 eX12_readsNumber_41 rfl ?_
    refine k_topi (nI (p + i)) hR.1 ?_
    refine k_iconst (v := nI 1) eX12_readsNumber_44 (by decide) ?_
    refine k_iaddN eX12_readsNumber_45 ?_
    refine PX12_206 eX12_readsNumber_46 rfl ?_
    refine k_goto 4 eX12_readsNumber_49 (by decide) ?_
    obtain ⟨hpi, d9, hd9, ed⟩ := hr_dig c_15
    have ev : nI (10 * v) + hrV t n (p + i) - nI 48 = nI (10 * v + d9) := by rw [hr_p hpi, ed, nI_add, pk_sub (by omega), show 10 * v + (48 + d9) - 48 = 10 * v + d9 by omega]
    have ep : 10 ^ (i + 1) = 10 * 10 ^ i := by rw [Nat.pow_succ, Nat.mul_comm]
    refine k_loc (L2 := [_, .int (nI (10 * v + d9)), _]) (by rw [← ev] <;> rfl) ?_
    refine ih (i + 1) (10 * v + d9) _ (by omega) (by omega) (Or.inr ?_) (fun q => absurd q (by omega)) (hR.pl (p + i + 1)) (by omega) (hF.si (Or.inl rfl) _)
    rcases hst with h0 | h1
    · subst h0
      rw [hv0 rfl]
      exact crn_s (p := p + 0) hc (by rw [ed, dig_b hd9, Nat.mul_zero, Nat.zero_add])
    · by_cases h0 : i = 0
      · subst h0
        rw [hv0 rfl]
        exact crn_s (p := p + 0) hc (by rw [ed, dig_b hd9, Nat.mul_zero, Nat.zero_add])
      · exact crn_s (p := p + i) h1 (by rw [ed, dig_g hd9 (by omega) (by omega)])
theorem pX12_readsNumber {S : k_S} {t : Nat → Int32} {n p : Nat} {c W : List Int32} {dg : Nat} {as : Bool} {m : List Int32} (hP : RdP S t n p c W dg as m) (hd : p < n ∧ pIn (t p) (nI 48) (nI 57)) : Sp 1 0 0 MX12_readsNumber [.ref 52] (hp S) (RdQ S 6 t n p W as m) := by
  obtain ⟨hn, hpn, hc, hrl, hR, hml⟩ := hP
  refine Sp_of (by decide +kernel) (Nat.le_of_ble_eq_true rfl) ?_
  show AW none MX12_readsNumber 1 0 0 0 [.ref 52, .null, .null] [] (hp S) _
  refine k_iconst (v := nI 0) eX12_readsNumber_0 (by decide) ?_
  refine k_istore_n (L2 := [_, _, _]) eX12_readsNumber_1 (Nat.le_of_ble_eq_true rfl) rfl ?_
  refine k_iconst (v := nI 0) eX12_readsNumber_2 (by decide) ?_
  refine k_istore_n (L2 := [_, _, _]) eX12_readsNumber_3 (Nat.le_of_ble_eq_true rfl) rfl ?_
  exact lX12_readsNumber (by decide) hn hc hd hml hrl 4 0 0 S (by omega) (by decide) (Or.inl rfl) (fun _ => rfl) hR hpn (FrP.rf S)
