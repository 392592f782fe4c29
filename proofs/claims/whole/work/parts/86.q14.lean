/-- one code more: how deep the stack then is -/
def stp (x : Int32) (e d : Nat) : Prop := if -x = nI 59 ∨ -x = nI 63 then e = 1 ∧ d = 0 else if ¬ 0 < -x ∨ 0 ≤ nam (-x) then e < 120 ∧ d = e + 1 else if -x = nI 33 ∨ -x = nI 126 then 1 ≤ e ∧ d = e else 2 ≤ e ∧ d = e - 1
def dp : List Int32 → Nat → Prop
  | [], d => d = 0
  | x :: c, d => ∃ e, dp c e ∧ stp x e d
theorem wfc_st {x : Int32} {r : List Int32} {e d : Nat} (h : stp x e d) (h2 : wfc r d) : wfc (x :: r) e := by
  unfold stp at h
  unfold wfc
  by_cases c1 : -x = nI 59 ∨ -x = nI 63
  · rw [if_pos c1] at h ⊢; exact ⟨h.1, by rw [← h.2]; exact h2⟩
  · rw [if_neg c1] at h ⊢
    by_cases c2 : ¬ 0 < -x ∨ 0 ≤ nam (-x)
    · rw [if_pos c2] at h ⊢; exact ⟨h.1, by rw [← h.2]; exact h2⟩
    · rw [if_neg c2] at h ⊢
      by_cases c3 : -x = nI 33 ∨ -x = nI 126
      · rw [if_pos c3] at h ⊢; exact ⟨h.1, by rw [← h.2]; exact h2⟩
      · rw [if_neg c3] at h ⊢; exact ⟨h.1, by rw [← h.2]; exact h2⟩
theorem dp_wfc : ∀ (c : List Int32) (d : Nat) (r : List Int32), dp c d → wfc r d → wfc (c.reverse ++ r) 0
  | [], d, r, h, h2 => by have h' : d = 0 := h; rw [h'] at h2; exact h2
  | x :: c, d, r, ⟨e, h1, h3⟩, h2 => by
    rw [List.reverse_cons, List.append_assoc]
    exact dp_wfc c e (x :: r) h1 (wfc_st h3 h2)
theorem stp_le {x : Int32} {e d : Nat} (h : stp x e d) : d ≤ e + 1 := by
  unfold stp at h
  split at h
  · omega
  · split at h
    · omega
    · split at h
      · omega
      · omega
theorem dp_le : ∀ (c : List Int32) (d : Nat), dp c d → d ≤ c.length
  | [], d, h => by have h' : d = 0 := h; simp [h']
  | x :: c, d, ⟨e, h1, h3⟩ => by have := dp_le c e h1; have := stp_le h3; simp only [List.length_cons]; omega
/-- whether the line has asked -/
def aqs (x : Int32) (a b : Bool) : Prop := if x = -59 then b = false else if x = -63 then a = false ∧ b = true else b = a
def aq : List Int32 → Bool → Prop
  | [], b => b = false
  | x :: c, b => ∃ a, aq c a ∧ aqs x a b
theorem wfq_aq {x : Int32} {r : List Int32} {a b : Bool} (h : aqs x a b) (h2 : wfq r b) : wfq (x :: r) a := by
  unfold aqs at h
  unfold wfq
  by_cases c1 : x = -59
  · rw [if_pos c1] at h ⊢; rw [← h]; exact h2
  · rw [if_neg c1] at h ⊢
    by_cases c2 : x = -63
    · rw [if_pos c2] at h ⊢; exact ⟨h.1, by rw [← h.2]; exact h2⟩
    · rw [if_neg c2] at h ⊢; rw [← h]; exact h2
theorem aq_wfq : ∀ (c : List Int32) (b : Bool) (r : List Int32), aq c b → wfq r b → wfq (c.reverse ++ r) false
  | [], b, r, h, h2 => by have h' : b = false := h; rw [h'] at h2; exact h2
  | x :: c, b, r, ⟨a, h1, h3⟩, h2 => by
    rw [List.reverse_cons, List.append_assoc]
    exact aq_wfq c a (x :: r) h1 (wfq_aq h3 h2)
/-- both at once -/
def cd (c : List Int32) (d : Nat) (a : Bool) : Prop := dp c d ∧ aq c a
theorem neg_ne {b : Int32} {k : Int32} (h : ¬ b = -k) : ¬ -b = k := fun q => h (by rw [← q, Int32.neg_neg])
/-- how many of what waits join two -/
def nb : List Int32 → Nat
  | [] => 0
  | s :: W => nb W + if 1 ≤ lev s ∧ lev s ≤ 5 then 1 else 0
def wOk (W : List Int32) : Prop := ∀ s ∈ W, 1 ≤ lev s ∨ s = nI 40
theorem stp_un {s : Int32} {e : Nat} (h : lev s = 6) (he : 1 ≤ e) : stp (-s) e e ∧ ∀ a, aqs (-s) a a := by
  rcases lev_cs s with ⟨rfl, q⟩ | ⟨rfl, q⟩ | ⟨_, q⟩ | ⟨_, q⟩ | ⟨_, q⟩ | ⟨rfl | rfl, _⟩ | q
  · omega
  · omega
  · omega
  · omega
  · omega
  · exact ⟨by rw [stp, Int32.neg_neg, if_neg (by decide), if_neg (by decide), if_pos (by decide)]; exact ⟨he, rfl⟩, fun a => by rw [aqs, if_neg (by decide), if_neg (by decide)]⟩
  · exact ⟨by rw [stp, Int32.neg_neg, if_neg (by decide), if_neg (by decide), if_pos (by decide)]; exact ⟨he, rfl⟩, fun a => by rw [aqs, if_neg (by decide), if_neg (by decide)]⟩
  · omega
theorem stp_bi {s : Int32} {e : Nat} (h : 1 ≤ lev s) (h5 : lev s ≤ 5) (he : 2 ≤ e) : stp (-s) e (e - 1) ∧ ∀ a, aqs (-s) a a := by
  rcases lev_cs s with ⟨rfl, q⟩ | ⟨rfl, q⟩ | ⟨rfl | rfl | rfl, q⟩ | ⟨rfl | rfl, q⟩ | ⟨rfl | rfl | rfl, q⟩ | ⟨_, q⟩ | q
  all_goals first | omega | exact ⟨by rw [stp, Int32.neg_neg, if_neg (by decide), if_neg (by decide), if_neg (by decide)]; exact ⟨he, rfl⟩, fun a => by rw [aqs, if_neg (by decide), if_neg (by decide)]⟩
/-- what waits comes to the code -/
theorem ew_cd {k : Nat} (hk : 1 ≤ k) : ∀ (W c : List Int32) (a : Bool), wOk W → cd c (nb W + 1) a → wOk (ew k c W).2 ∧ cd (ew k c W).1 (nb (ew k c W).2 + 1) a
  | [], c, a, h, h2 => ⟨h, h2⟩
  | s :: W, c, a, h, h2 => by
    rw [ew]
    by_cases c1 : k ≤ lev s
    · rw [if_pos c1]
      have hW : wOk W := fun x hx => h x (List.mem_cons_of_mem _ hx)
      refine ew_cd hk W ((-s) :: c) a hW ?_
      obtain ⟨h3, h4⟩ := h2
      by_cases c2 : lev s ≤ 5
      · rw [nb, if_pos ⟨by omega, c2⟩] at h3
        obtain ⟨q1, q2⟩ := stp_bi (e := nb W + 1 + 1) (show 1 ≤ lev s by omega) c2 (by omega)
        exact ⟨⟨_, h3, q1⟩, ⟨a, h4, q2 a⟩⟩
      · have h6 : lev s = 6 := by
          rcases lev_cs s with ⟨_, q⟩ | ⟨_, q⟩ | ⟨_, q⟩ | ⟨_, q⟩ | ⟨_, q⟩ | ⟨_, q⟩ | q <;> omega
        rw [nb, if_neg (by omega)] at h3
        obtain ⟨q1, q2⟩ := stp_un (e := nb W + 0 + 1) h6 (by omega)
        exact ⟨⟨_, h3, q1⟩, ⟨a, h4, q2 a⟩⟩
    · rw [if_neg c1]; exact ⟨h, h2⟩
theorem ng_nI {v : Nat} (h : v < 2 ^ 30) : ¬ 0 < -(nI v) ∧ ¬ -(nI v) = nI 59 ∧ ¬ -(nI v) = nI 63 := by
  have e : (-(nI v)).toInt = -(v : Int) := by
    rw [← Int32.zero_sub, ti_sub (by rw [nI_toInt (by omega), show (0 : Int32).toInt = 0 from by decide]; omega) (by rw [nI_toInt (by omega), show (0 : Int32).toInt = 0 from by decide]; omega), nI_toInt (by omega), show (0 : Int32).toInt = 0 from by decide]; omega
  refine ⟨fun q => ?_, fun q => ?_, fun q => ?_⟩
  · have q2 := Int32.lt_iff_toInt_lt.mp q
    rw [e, show (0 : Int32).toInt = 0 from by decide] at q2; omega
  · have q2 := congrArg Int32.toInt q
    rw [e, nI_toInt (by omega)] at q2; omega
  · have q2 := congrArg Int32.toInt q
    rw [e, nI_toInt (by omega)] at q2; omega
theorem nI_nm {v : Nat} (h : v < 2 ^ 30) : ¬ nI v = -59 ∧ ¬ nI v = -63 := by
  refine ⟨fun q => ?_, fun q => ?_⟩
  · have q2 := congrArg Int32.toInt q
    rw [nI_toInt (by omega), show (-59 : Int32).toInt = -59 from by decide] at q2; omega
  · have q2 := congrArg Int32.toInt q
    rw [nI_toInt (by omega), show (-63 : Int32).toInt = -63 from by decide] at q2; omega
theorem stp_nm {v e : Nat} (h : v < 2 ^ 30) (he : e < 120) : stp (nI v) e (e + 1) ∧ ∀ a, aqs (nI v) a a := by
  obtain ⟨a1, a2, a3⟩ := ng_nI h
  obtain ⟨b1, b2⟩ := nI_nm h
  exact ⟨by rw [stp, if_neg (fun q => q.elim a2 a3), if_pos (Or.inl a1)]; exact ⟨he, rfl⟩, fun a => by rw [aqs, if_neg b1, if_neg b2]⟩
theorem stp_nm' {v e d : Nat} (h : v < 2 ^ 30) (q : stp (nI v) e d) : e < 120 ∧ d = e + 1 := by
  obtain ⟨a1, a2, a3⟩ := ng_nI h
  rw [stp, if_neg (fun q => q.elim a2 a3), if_pos (Or.inl a1)] at q; exact q
theorem aqs_nm' {v : Nat} {a b : Bool} (h : v < 2 ^ 30) (q : aqs (nI v) a b) : b = a := by
  obtain ⟨b1, b2⟩ := nI_nm h
  rw [aqs, if_neg b1, if_neg b2] at q; exact q
theorem nam_n5 {b : Int32} (h : 0 ≤ nam b) : ¬ b = nI 59 ∧ ¬ b = nI 63 := ⟨fun q => by subst q; exact absurd h (by decide), fun q => by subst q; exact absurd h (by decide)⟩
theorem stp_na {b : Int32} {e : Nat} (h : 0 ≤ nam b) (he : e < 120) : stp (-b) e (e + 1) ∧ ∀ a, aqs (-b) a a := by
  obtain ⟨a1, a2⟩ := nam_n5 h
  refine ⟨by rw [stp, Int32.neg_neg, if_neg (fun q => q.elim a1 a2), if_pos (Or.inr h)]; exact ⟨he, rfl⟩, fun a => ?_⟩
  rw [aqs, if_neg (fun q => a1 (by rw [← @Int32.neg_neg b, q]; decide)), if_neg (fun q => a2 (by rw [← @Int32.neg_neg b, q]; decide))]
/-- what holds of the reader -/
def cIv (st : cS) : Prop := wOk st.2.1 ∧ cd st.1 (nb st.2.1 + if st.2.2.2.1 = true then 0 else 1) st.2.2.2.2 ∧ (st.2.2.2.1 = false → 1 ≤ st.2.2.1 → ∃ v c, st.1 = nI v :: c ∧ v < 10 ^ st.2.2.1)
theorem dg_ex {b : Int32} (h : pIn b (nI 48) (nI 57)) : ∃ k, k < 10 ∧ b - nI 48 = nI k := by
  obtain ⟨k, hk, rfl⟩ := k_rngle (Int32.le_trans (by decide) h.1) h.2 (by decide)
  have h1 := Int32.le_iff_toInt_le.mp h.1
  rw [nI_toInt (by omega), nI_toInt (by omega)] at h1
  exact ⟨k - 48, by omega, pk_sub (by omega)⟩
theorem bgP_cI {c W : List Int32} {dg : Nat} {as : Bool} {b : Int32} {st : cS} (hl : c.length < 120) (h : cIv (c, W, dg, true, as)) (e : bgP c W dg as b = some st) : cIv st := by
  obtain ⟨h1, h2, h3⟩ := h
  dsimp only at h1 h2
  rw [if_pos rfl, Nat.add_zero] at h2
  have hd := dp_le c _ h2.1
  unfold bgP at e
  by_cases c1 : pIn b (nI 48) (nI 57)
  · rw [if_pos c1] at e
    cases e
    obtain ⟨k, hk, ek⟩ := dg_ex c1
    obtain ⟨q1, q2⟩ := stp_nm (v := k) (e := nb W) (by omega) (by omega)
    rw [ek]
    exact ⟨h1, ⟨⟨_, h2.1, q1⟩, ⟨_, h2.2, q2 _⟩⟩, fun _ _ => ⟨k, c, rfl, by show k < 10 ^ 1; omega⟩⟩
  · rw [if_neg c1] at e
    by_cases c2 : 0 ≤ nam b
    · rw [if_pos c2] at e
      cases e
      obtain ⟨q1, q2⟩ := stp_na (e := nb W) c2 (by omega)
      exact ⟨h1, ⟨⟨_, h2.1, q1⟩, ⟨_, h2.2, q2 _⟩⟩, fun _ h9 => absurd h9 (by show ¬ 1 ≤ 0; omega)⟩
    · rw [if_neg c2] at e
      by_cases c3 : b = nI 40 ∨ b = nI 33 ∨ b = nI 45
      · rw [if_pos c3] at e
        by_cases c4 : oc W < 6
        · rw [if_pos c4] at e
          cases e
          have hs : (1 ≤ lev (if b = nI 45 then nI 126 else b) ∨ (if b = nI 45 then nI 126 else b) = nI 40) ∧ ¬ (1 ≤ lev (if b = nI 45 then nI 126 else b) ∧ lev (if b = nI 45 then nI 126 else b) ≤ 5) := by
            rcases c3 with rfl | rfl | rfl <;> decide
          refine ⟨fun s hs2 => ?_, ?_, fun h9 => (by cases h9)⟩
          · rcases List.mem_cons.mp hs2 with q | q
            · rw [q]; exact hs.1
            · exact h1 s q
          · show cd c (nb ((if b = nI 45 then nI 126 else b) :: W) + 0) as
            rw [nb, if_neg hs.2]; exact h2
        · rw [if_neg c4] at e; cases e
      · rw [if_neg c3] at e; cases e
theorem stp_e {e : Nat} (h : e = 1) : stp (-59) e 0 ∧ stp (-63) e 0 := by
  subst h
  exact ⟨by rw [stp, if_pos (by decide)]; exact ⟨rfl, rfl⟩, by rw [stp, if_pos (by decide)]; exact ⟨rfl, rfl⟩⟩
theorem goP_cI {c W : List Int32} {dg : Nat} {as : Bool} {b : Int32} {st : cS} (h : cIv (c, W, dg, false, as)) (e : goP c W dg as b = some st) : cIv st := by
  obtain ⟨h1, h2, h3⟩ := h
  dsimp only at h1 h2 h3
  rw [if_neg (by decide)] at h2
  unfold goP at e
  by_cases c1 : pIn b (nI 48) (nI 57)
  · rw [if_pos c1] at e
    by_cases c2 : dg < 1 ∨ 3 < dg
    · rw [if_pos c2] at e; cases e
    · rw [if_neg c2] at e
      obtain ⟨v, c', rfl, hv⟩ := h3 rfl (by omega)
      cases e
      obtain ⟨k, hk, ek⟩ := dg_ex c1
      have hp3 : 10 ^ dg ≤ 10 ^ 3 := Nat.pow_le_pow_right (by decide) (by omega)
      have hv3 : v < 1000 := by have : (10 : Nat) ^ 3 = 1000 := rfl; omega
      have ex : nI v * nI 10 + (b - nI 48) = nI (v * 10 + k) := by rw [ek, pk_mul, nI_add]
      obtain ⟨⟨e0, d1, d2⟩, ⟨a0, a1, a2⟩⟩ := h2
      obtain ⟨he, hd⟩ := stp_nm' (by omega) d2
      obtain ⟨q1, q2⟩ := stp_nm (v := v * 10 + k) (e := e0) (by omega) he
      have ea := aqs_nm' (by omega) a2
      rw [ex]
      refine ⟨h1, ⟨⟨e0, d1, ?_⟩, ⟨a0, a1, ?_⟩⟩, fun _ _ => ⟨v * 10 + k, c', rfl, ?_⟩⟩
      · show stp (nI (v * 10 + k)) e0 (nb W + 1)
        rw [hd]; exact q1
      · show aqs (nI (v * 10 + k)) a0 as
        rw [ea]; exact q2 a0
      · show v * 10 + k < 10 ^ (dg + 1)
        rw [Nat.pow_succ]; omega
  · rw [if_neg c1] at e
    obtain ⟨w1, w2⟩ := ew_cd (k := 1) (Nat.le_refl 1) W c as h1 h2
    by_cases c2 : b = nI 41
    · rw [if_pos c2] at e
      rcases hew : (ew 1 c W).2 with _ | ⟨s, W2⟩
      · rw [hew] at e; cases e
      · rw [hew] at e w1 w2
        dsimp only at e
        by_cases c3 : s = nI 40
        · rw [if_pos c3] at e
          cases e
          subst c3
          refine ⟨fun x hx => w1 x (List.mem_cons_of_mem _ hx), ?_, fun _ h9 => absurd h9 (by show ¬ 1 ≤ 0; omega)⟩
          rw [nb, if_neg (by decide)] at w2
          exact w2
        · rw [if_neg c3] at e; cases e
    · rw [if_neg c2] at e
      by_cases c3 : b = nI 59
      · rw [if_pos c3] at e
        by_cases c4 : (ew 1 c W).2 = []
        · rw [if_pos c4] at e
          cases e
          rw [c4] at w2
          exact ⟨fun x hx => (by cases hx), ⟨⟨_, w2.1, (stp_e rfl).1⟩, ⟨_, w2.2, by rw [aqs, if_pos rfl]⟩⟩, fun h9 => (by cases h9)⟩
        · rw [if_neg c4] at e; cases e
      · rw [if_neg c3] at e
        by_cases c4 : b = nI 63
        · rw [if_pos c4] at e
          by_cases c5 : as = false ∧ (ew 1 c W).2 = []
          · rw [if_pos c5] at e
            cases e
            rw [c5.2] at w2
            exact ⟨fun x hx => (by cases hx), ⟨⟨_, w2.1, (stp_e rfl).2⟩, ⟨_, w2.2, by rw [aqs, if_neg (by decide), if_pos rfl]; exact ⟨c5.1, rfl⟩⟩⟩, fun h9 => (by cases h9)⟩
          · rw [if_neg c5] at e; cases e
        · rw [if_neg c4] at e
          by_cases c5 : lev b < 1 ∨ 5 < lev b
          · rw [if_pos c5] at e; cases e
          · rw [if_neg c5] at e
            have fin : ∀ c' W', wOk W' → cd c' (nb W' + 1) as → cIv (c', b :: W', 0, true, as) := fun c' W' z1 z2 => by
              refine ⟨fun x hx => ?_, ?_, fun h9 => (by cases h9)⟩
              · rcases List.mem_cons.mp hx with q | q
                · rw [q]; left; omega
                · exact z1 x q
              · show cd c' (nb (b :: W') + 0) as
                rw [nb, if_pos (by omega)]; exact z2
            by_cases c6 : lev b = 3
            · rw [if_pos c6] at e
              by_cases c7 : lev (hdI (ew 4 c W).2) = 3
              · rw [if_pos c7] at e; cases e
              · rw [if_neg c7] at e
                cases e
                obtain ⟨z1, z2⟩ := ew_cd (k := 4) (by omega) W c as h1 h2
                obtain ⟨z3, z4⟩ := ew_cd (k := 3) (by omega) (ew 4 c W).2 (ew 4 c W).1 as z1 z2
                exact fin _ _ z3 z4
            · rw [if_neg c6] at e
              cases e
              obtain ⟨z1, z2⟩ := ew_cd (k := lev b) (by omega) W c as h1 h2
              exact fin _ _ z1 z2
theorem crn_cI {t : Nat → Int32} : ∀ n, n ≤ 120 → ∀ st, crn t n = some st → cIv st
  | 0, _, st, h => by
    cases h
    exact ⟨fun x hx => (by cases hx), ⟨rfl, rfl⟩, fun h9 => (by cases h9)⟩
  | n + 1, hn, st, h => by
    rw [crn] at h
    rcases hc : crn t n with _ | s0
    · rw [hc] at h; cases h
    · rw [hc] at h
      have h' : cst s0 (t n) = some st := h
      have ih := crn_cI n (by omega) s0 hc
      have ho := (crn_ok _ _ _ hc).1
      obtain ⟨c, W, dg, bgb, as⟩ := s0
      rw [cst] at h'
      dsimp only at h' ho
      cases bgb with
      | true => rw [if_pos rfl] at h'; exact bgP_cI (by omega) ih h'
      | false => rw [if_neg (by decide)] at h'; exact goP_cI ih h'
/-- a text read: its codes hold together -/
theorem crn_wf {t : Nat → Int32} {n : Nat} (hn : n ≤ 120) {st : cS} (h : crn t n = some st) (hb : st.2.2.2.1 = false) (he : (ew 1 st.1 st.2.1).2 = []) : wfc ((-59) :: (ew 1 st.1 st.2.1).1).reverse 0 ∧ wfq ((-59) :: (ew 1 st.1 st.2.1).1).reverse false ∧ (ew 1 st.1 st.2.1).1.length ≤ 120 := by
  obtain ⟨h1, h2, _⟩ := crn_cI n hn st h
  have hl := (crn_ok _ _ _ h).1
  have hw := ew_len 1 st.2.1 st.1
  rw [hb, if_neg (by decide)] at h2
  obtain ⟨w1, w2⟩ := ew_cd (k := 1) (Nat.le_refl 1) st.2.1 st.1 _ h1 h2
  rw [he] at w2
  refine ⟨?_, ?_, by omega⟩
  · have q := dp_wfc ((-59) :: (ew 1 st.1 st.2.1).1) 0 [] ⟨_, w2.1, (stp_e rfl).1⟩ rfl
    rw [List.append_nil] at q; exact q
  · have q := aq_wfq ((-59) :: (ew 1 st.1 st.2.1).1) false [] ⟨_, w2.2, by rw [aqs, if_pos rfl]⟩ trivial
    rw [List.append_nil] at q; exact q
