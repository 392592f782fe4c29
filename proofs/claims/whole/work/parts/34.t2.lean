/-- what a step wants of the stack -/
def dpOk (s : Int32) (st : List Int32) : Prop := (¬ 0 < s ∨ 0 ≤ nam s → st.length < 120) ∧ (0 < s → ¬ 0 ≤ nam s → (s = nI 33 ∨ s = nI 126) → ∃ a r, st = a :: r) ∧ (0 < s → ¬ 0 ≤ nam s → ¬ (s = nI 33 ∨ s = nI 126) → ∃ b a r, st = b :: a :: r)
theorem len1 {st : List Int32} (h : 1 ≤ st.length) : ∃ a r, st = a :: r := by
  cases st with
  | nil => exact absurd h (by decide)
  | cons a r => exact ⟨a, r, rfl⟩
theorem len2 {st : List Int32} (h : 2 ≤ st.length) : ∃ b a r, st = b :: a :: r := by
  cases st with
  | nil => exact absurd h (by decide)
  | cons b r => cases r with
    | nil => exact absurd h (by simp)
    | cons a r => exact ⟨b, a, r, rfl⟩
theorem wfc_step {x : Int32} {r : List Int32} {st : List Int32} (nm : Nat → Int32) (h : wfc (x :: r) st.length) (h1 : ¬ -x = nI 59) (h2 : ¬ -x = nI 63) (hl : st.length ≤ 120) : dpOk (-x) st ∧ wfc r (stepL nm (-x) st).length ∧ (stepL nm (-x) st).length ≤ 120 := by
  rw [wfc, if_neg (fun q => q.elim h1 h2)] at h
  by_cases c1 : ¬ 0 < -x ∨ 0 ≤ nam (-x)
  · rw [if_pos c1] at h
    refine ⟨⟨fun _ => h.1, fun a b => absurd c1 (fun q => q.elim (fun q => q a) (fun q => b q)), fun a b => absurd c1 (fun q => q.elim (fun q => q a) (fun q => b q))⟩, ?_⟩
    have e : (stepL nm (-x) st).length = st.length + 1 := by
      unfold stepL
      by_cases c : ¬ 0 < -x
      · rw [if_pos c]; rfl
      · rw [if_neg c, if_pos (c1.resolve_left c)]; rfl
    rw [e]; exact ⟨h.2, by first | exact h.1 | exact hl | exact Nat.le_trans (Nat.sub_le _ _) hl⟩
  · rw [if_neg c1] at h
    have a1 : 0 < -x := Decidable.not_not.mp (fun q => c1 (Or.inl q))
    have a2 : ¬ 0 ≤ nam (-x) := fun q => c1 (Or.inr q)
    by_cases c2 : -x = nI 33 ∨ -x = nI 126
    · rw [if_pos c2] at h
      obtain ⟨a, t, rfl⟩ := len1 h.1
      refine ⟨⟨fun q => absurd q c1, fun _ _ _ => ⟨a, t, rfl⟩, fun _ _ q => absurd c2 q⟩, ?_⟩
      have e : (stepL nm (-x) (a :: t)).length = (a :: t).length := by
        unfold stepL
        rw [if_neg (not_not_intro a1), if_neg a2]
        by_cases c : -x = nI 33
        · rw [if_pos c]; rfl
        · rw [if_neg c, if_pos (c2.resolve_left c)]; rfl
      rw [e]; exact ⟨h.2, by first | exact h.1 | exact hl | exact Nat.le_trans (Nat.sub_le _ _) hl⟩
    · rw [if_neg c2] at h
      obtain ⟨b, a, t, rfl⟩ := len2 h.1
      refine ⟨⟨fun q => absurd q c1, fun _ _ q => absurd q c2, fun _ _ _ => ⟨b, a, t, rfl⟩⟩, ?_⟩
      have e : (stepL nm (-x) (b :: a :: t)).length = (b :: a :: t).length - 1 := by
        unfold stepL
        rw [if_neg (not_not_intro a1), if_neg a2, if_neg (fun q => c2 (Or.inl q)), if_neg (fun q => c2 (Or.inr q))]; rfl
      rw [e]; exact ⟨h.2, by first | exact h.1 | exact hl | exact Nat.le_trans (Nat.sub_le _ _) hl⟩
set_option maxHeartbeats 400000 in
theorem pX9_step39 {S : k_S} {s : Int32} {st : List Int32} (hs : stk (S.2.1 41) st) (hh : S.1 1953 = nI st.length) (hd : dpOk s st) (hl : st.length ≤ 120) : Sp 2 0 0 MX9_step [.ref 39, .int (s), .ref 48] (hp S) (Rx none (fun S' => stk (S'.2.1 41) (stepL (S.2.1 48) s st) ∧ S'.1 1953 = nI (stepL (S.2.1 48) s st).length ∧ Frm [1953] [41] [] S S')) := by
  refine Sp_of (by decide +kernel) (Nat.le_of_ble_eq_true rfl) ?_
  show AW none MX9_step 2 0 0 0 [.ref 39, .int (s), .ref 48, .null] [] (hp S) _
  refine k_iload_n eX9_step_0 rfl ?_
  refine k_if_gt 13 eX9_step_1 (by decide) (fun c_1 => ?_) (fun c_1 => ?_)
  · refine k_iload_n eX9_step_13 rfl ?_
    refine cS1 (M' := MX9_nameOf) eX9_step_14 mX9_49 wX9_nameOf sX9_nameOf rfl (pX9_nameOf (s)) (by decide) (Nat.le_of_ble_eq_true rfl) ?_
    refine k_if_lt 35 eX9_step_17 (by decide) (fun c_17 => ?_) (fun c_17 => ?_)
    · refine k_iload_n eX9_step_35 rfl ?_
      refine k_bipush (v := nI 33) eX9_step_36 (by decide) ?_
      refine k_icmp_ne 60 eX9_step_38 (by decide) (fun c_38 => ?_) (fun c_38 => ?_)
      · refine k_iload_n eX9_step_60 rfl ?_
        refine k_bipush (v := nI 126) eX9_step_61 (by decide) ?_
        refine k_icmp_ne 78 eX9_step_63 (by decide) (fun c_63 => ?_) (fun c_63 => ?_)
        · obtain ⟨b, a, r, rfl⟩ := hd.2.2 c_1 (Int32.not_le.mpr c_17) (fun q => q.elim c_38 c_63)
          simp only [List.length_cons] at hh hl
          refine k_aload_n eX9_step_78 rfl ?_
          refine cV1 (M' := MX9_pop) eX9_step_79 mX9_37 wX9_pop vX9_pop ⟨_, _, _, rfl, rfl, rfl⟩ rfl (pX9_pop39 (S := S) (n := r.length + 1) hh (by omega)) (by decide) (Nat.le_of_ble_eq_true rfl) ?_
          refine k_topi (b) hs.1 ?_
          refine k_istore_n (L2 := [_, _, _, _]) eX9_step_82 (Nat.le_of_ble_eq_true rfl) rfl ?_
          refine k_aload_n eX9_step_83 rfl ?_
          refine k_iload_n eX9_step_84 rfl ?_
          refine k_aload_n eX9_step_85 rfl ?_
          refine cV1 (M' := MX9_pop) eX9_step_86 mX9_37 wX9_pop vX9_pop ⟨_, _, _, rfl, rfl, rfl⟩ rfl (pX9_pop39 (S := (si S 1953 (nI (r.length + 1)))) (n := r.length) rfl (by omega)) (by decide) (Nat.le_of_ble_eq_true rfl) ?_
          refine k_topi (a) hs.2.1 ?_
          refine k_iload_n eX9_step_89 rfl ?_
          refine cS1 (M' := MX9_joined) eX9_step_90 mX9_53 wX9_joined sX9_joined rfl (pX9_joined (s) (a) (b)) (by decide) (Nat.le_of_ble_eq_true rfl) ?_
          refine cV0 (M' := MX9_push) eX9_step_93 mX9_45 wX9_push vX9_push ⟨_, _, _, rfl, rfl, rfl⟩ rfl (pX9_push39 (S := (si (si S 1953 (nI (r.length + 1))) 1953 (nI (r.length)))) (n := r.length) rfl (by omega) ((jn (s) (a) (b)))) (by decide) (Nat.le_of_ble_eq_true rfl) ?_
          refine k_return eX9_step_96 rfl ?_
          have e : stepL (S.2.1 48) s (b :: a :: r) = jn s a b :: r := by unfold stepL; rw [if_neg (not_not_intro c_1), if_neg (Int32.not_le.mpr c_17), if_neg c_38, if_neg c_63]; rfl
          rw [e]
          exact ⟨rfl, _, rfl, stk_push hs.2.2, rfl, (((((Frm.rf S).si (by decide) _).si (by decide) _).sa (by decide) _).si (by decide) _)⟩
        obtain ⟨a, r, rfl⟩ := hd.2.1 c_1 (Int32.not_le.mpr c_17) (Or.inr c_63)
        simp only [List.length_cons] at hh hl
        refine k_aload_n eX9_step_66 rfl ?_
        refine k_aload_n eX9_step_67 rfl ?_
        refine cV1 (M' := MX9_pop) eX9_step_68 mX9_37 wX9_pop vX9_pop ⟨_, _, _, rfl, rfl, rfl⟩ rfl (pX9_pop39 (S := S) (n := r.length) hh (by omega)) (by decide) (Nat.le_of_ble_eq_true rfl) ?_
        refine k_topi (a) hs.1 ?_
        refine k_ineg eX9_step_71 ?_
        refine cV0 (M' := MX9_push) eX9_step_72 mX9_45 wX9_push vX9_push ⟨_, _, _, rfl, rfl, rfl⟩ rfl (pX9_push39 (S := (si S 1953 (nI (r.length)))) (n := r.length) rfl (by omega) ((-(a)))) (by decide) (Nat.le_of_ble_eq_true rfl) ?_
        refine k_goto 96 eX9_step_75 (by decide) ?_
        refine k_return eX9_step_96 rfl ?_
        have e : stepL (S.2.1 48) s (a :: r) = (-a) :: r := by unfold stepL; rw [if_neg (not_not_intro c_1), if_neg (Int32.not_le.mpr c_17), if_neg c_38, if_pos c_63]; rfl
        rw [e]
        exact ⟨rfl, _, rfl, stk_push hs.2, rfl, ((((Frm.rf S).si (by decide) _).sa (by decide) _).si (by decide) _)⟩
      obtain ⟨a, r, rfl⟩ := hd.2.1 c_1 (Int32.not_le.mpr c_17) (Or.inl c_38)
      simp only [List.length_cons] at hh hl
      refine k_aload_n eX9_step_41 rfl ?_
      refine k_aload_n eX9_step_42 rfl ?_
      refine cV1 (M' := MX9_pop) eX9_step_43 mX9_37 wX9_pop vX9_pop ⟨_, _, _, rfl, rfl, rfl⟩ rfl (pX9_pop39 (S := S) (n := r.length) hh (by omega)) (by decide) (Nat.le_of_ble_eq_true rfl) ?_
      refine k_topi (a) hs.1 ?_
      refine k_if_ne 53 eX9_step_46 (by decide) (fun c_46 => ?_) (fun c_46 => ?_)
      · refine k_iconst (v := nI 0) eX9_step_53 (by decide) ?_
        refine cV0 (M' := MX9_push) eX9_step_54 mX9_45 wX9_push vX9_push ⟨_, _, _, rfl, rfl, rfl⟩ rfl (pX9_push39 (S := (si S 1953 (nI (r.length)))) (n := r.length) rfl (by omega) (nI 0)) (by decide) (Nat.le_of_ble_eq_true rfl) ?_
        refine k_goto 96 eX9_step_57 (by decide) ?_
        refine k_return eX9_step_96 rfl ?_
        have e : stepL (S.2.1 48) s (a :: r) = nI 0 :: r := by unfold stepL; rw [if_neg (not_not_intro c_1), if_neg (Int32.not_le.mpr c_17), if_pos c_38]; show b2i (a = 0) :: r = _; rw [b2i_f c_46]
        rw [e]
        exact ⟨rfl, _, rfl, stk_push hs.2, rfl, ((((Frm.rf S).si (by decide) _).sa (by decide) _).si (by decide) _)⟩
      refine k_iconst (v := nI 1) eX9_step_49 (by decide) ?_
      refine k_goto 54 eX9_step_50 (by decide) ?_
      refine cV0 (M' := MX9_push) eX9_step_54 mX9_45 wX9_push vX9_push ⟨_, _, _, rfl, rfl, rfl⟩ rfl (pX9_push39 (S := (si S 1953 (nI (r.length)))) (n := r.length) rfl (by omega) (nI 1)) (by decide) (Nat.le_of_ble_eq_true rfl) ?_
      refine k_goto 96 eX9_step_57 (by decide) ?_
      refine k_return eX9_step_96 rfl ?_
      have e : stepL (S.2.1 48) s (a :: r) = nI 1 :: r := by unfold stepL; rw [if_neg (not_not_intro c_1), if_neg (Int32.not_le.mpr c_17), if_pos c_38]; show b2i (a = 0) :: r = _; rw [b2i_t c_46]
      rw [e]
      exact ⟨rfl, _, rfl, stk_push hs.2, rfl, ((((Frm.rf S).si (by decide) _).sa (by decide) _).si (by decide) _)⟩
    refine k_aload_n eX9_step_20 rfl ?_
    refine k_aload_n eX9_step_21 rfl ?_
    refine k_iload_n eX9_step_22 rfl ?_
    refine cS1 (M' := MX9_nameOf) eX9_step_23 mX9_49 wX9_nameOf sX9_nameOf rfl (pX9_nameOf (s)) (by decide) (Nat.le_of_ble_eq_true rfl) ?_
    refine k_topi (nI (ix (nam s))) (nam_rng s (Int32.not_lt.mp c_17)).1 ?_
    refine cN1 (M' := MX11_read) eX9_step_26 mX9_26 wX11_read sX11_read rfl (pX11_readN (j := ix (nam s)) (ar48 _) (nam_rng s (Int32.not_lt.mp c_17)).2 (by decide)) (by decide) (Nat.le_of_ble_eq_true rfl) ?_
    refine cV0 (M' := MX9_push) eX9_step_29 mX9_45 wX9_push vX9_push ⟨_, _, _, rfl, rfl, rfl⟩ rfl (pX9_push39 (S := S) (n := st.length) hh (by have := hd.1 (Or.inr (Int32.not_lt.mp c_17)); omega) ((S.2.1 48 (ix (nam s))))) (by decide) (Nat.le_of_ble_eq_true rfl) ?_
    refine k_goto 96 eX9_step_32 (by decide) ?_
    refine k_return eX9_step_96 rfl ?_
    have e : stepL (S.2.1 48) s st = S.2.1 48 (ix (nam s)) :: st := by unfold stepL; rw [if_neg (not_not_intro c_1), if_pos (Int32.not_lt.mp c_17)]
    rw [e]
    exact ⟨rfl, _, rfl, stk_push hs, rfl, (((Frm.rf S).sa (by decide) _).si (by decide) _)⟩
  refine k_aload_n eX9_step_4 rfl ?_
  refine k_iload_n eX9_step_5 rfl ?_
  refine k_ineg eX9_step_6 ?_
  refine cV0 (M' := MX9_push) eX9_step_7 mX9_45 wX9_push vX9_push ⟨_, _, _, rfl, rfl, rfl⟩ rfl (pX9_push39 (S := S) (n := st.length) hh (by have := hd.1 (Or.inl c_1); omega) ((-(s)))) (by decide) (Nat.le_of_ble_eq_true rfl) ?_
  refine k_goto 96 eX9_step_10 (by decide) ?_
  refine k_return eX9_step_96 rfl ?_
  have e : stepL (S.2.1 48) s st = (-s) :: st := by unfold stepL; rw [if_pos c_1]
  rw [e]
  exact ⟨rfl, _, rfl, stk_push hs, rfl, (((Frm.rf S).sa (by decide) _).si (by decide) _)⟩
theorem wfc_tl {x : Int32} {r : List Int32} {d : Nat} (h : wfc (x :: r) d) : ∃ d2, wfc r d2 := by
  rw [wfc] at h
  repeat' split at h
  all_goals exact ⟨_, h.2⟩
theorem lX9_given39 {d0 : Nat} (hdd : 3 ≤ d0) {S0 : k_S} {n0 : Nat} (hn : S0.1 1951 = nI n0) (hn0 : n0 ≤ 240) : ∀ (k j : Nat) (sk : Bool) (st : List Int32) (d : Nat) (S : k_S), j + k = n0 → stk (S.2.1 41) st → S.1 1953 = nI st.length → st.length ≤ 120 → wfc (cds (S0.2.1 40) j k) d → (sk = true → st = []) → (sk = false → d = st.length) → Frm [1953] [41] [] S0 S → AW none MX9_given d0 0 0 9 [.ref 39, .ref 48, .int (b2i (sk = true)), .int (nI j), .null] [] (hp S) (Rx (some (.int (gv (S0.2.1 48) (cds (S0.2.1 40) j k) sk st))) (fun S' => Frm [1953] [41] [] S0 S')) := by
  intro k
  induction k with
  | zero =>
    intro j sk st d S hj hs hh hl hwf hsk hnsk f0
    rw [show j = n0 by omega]
    refine k_iload_n eX9_given_9 rfl ?_
    refine k_aload_n eX9_given_10 rfl ?_
    refine GX9_15_39 eX9_given_11 rfl ?_
    refine k_topi (nI n0) ((f0.1 1951 (by decide)).trans hn) ?_
    refine k_icmp_geN 96 eX9_given_14 (by decide) (by omega) (by omega) (fun c_14 => ?_) (fun c_14 => by exfalso; omega)
    refine k_iconst (v := nI 0) eX9_given_96 (by decide) ?_
    refine k_ireturn eX9_given_97 rfl rfl ?_
    exact ⟨rfl, _, rfl, f0⟩
  | succ k ih =>
    intro j sk st d S hj hs hh hl hwf hsk hnsk f0
    obtain ⟨x, hx⟩ : ∃ x, S0.2.1 40 j = x := ⟨_, rfl⟩
    have ec : cds (S0.2.1 40) j (k + 1) = x :: cds (S0.2.1 40) (j + 1) k := by rw [← hx]; rfl
    rw [ec] at hwf
    rw [ec]
    refine k_iload_n eX9_given_9 rfl ?_
    refine k_aload_n eX9_given_10 rfl ?_
    refine GX9_15_39 eX9_given_11 rfl ?_
    refine k_topi (nI n0) ((f0.1 1951 (by decide)).trans hn) ?_
    refine k_icmp_geN 96 eX9_given_14 (by decide) (by omega) (by omega) (fun c_14 => by exfalso; omega) (fun c_14 => ?_)
    refine k_aload_n eX9_given_17 rfl ?_
    refine GX9_9_39 eX9_given_18 rfl ?_
    refine k_iload_n eX9_given_21 rfl ?_
    refine cN1 (M' := MX11_read) eX9_given_22 mX9_26 wX11_read sX11_read rfl (pX11_readN (j := j) (ar40 _) (by omega) (by decide)) (by omega) (Nat.le_of_ble_eq_true rfl) ?_
    refine k_topi (x) ((congrFun (f0.2.1 40 (by decide)) j).trans hx) ?_
    refine k_ineg eX9_given_25 ?_
    refine k_istore (L2 := [_, _, _, _, _]) eX9_given_26 (Nat.le_of_ble_eq_true rfl) rfl ?_
    refine k_iload_n eX9_given_28 rfl ?_
    refine k_ifb_eq 48 eX9_given_29 (by decide) (fun c_29 => ?_) (fun c_29 => ?_)
    · refine k_iload eX9_given_48 rfl ?_
      refine k_bipush (v := nI 59) eX9_given_50 (by decide) ?_
      refine k_icmp_ne 60 eX9_given_52 (by decide) (fun c_52 => ?_) (fun c_52 => ?_)
      · refine k_iload eX9_given_60 rfl ?_
        refine k_bipush (v := nI 63) eX9_given_62 (by decide) ?_
        refine k_icmp_ne 83 eX9_given_64 (by decide) (fun c_64 => ?_) (fun c_64 => ?_)
        · have hd1 := hnsk (Bool.not_eq_true _ |>.mp c_29)
          subst hd1
          obtain ⟨hdp, hwf2, hlen2⟩ := wfc_step (S.2.1 48) hwf c_52 c_64 hl
          have e48 : S.2.1 48 = S0.2.1 48 := f0.2.1 48 (by decide)
          rw [e48] at hwf2 hlen2
          refine k_aload_n eX9_given_83 rfl ?_
          refine k_iload eX9_given_84 rfl ?_
          refine k_aload_n eX9_given_86 rfl ?_
          refine cVX0 (v := .null) (M' := MX9_step) eX9_given_87 mX9_41 wX9_step vX9_step ⟨_, _, _, rfl, rfl, rfl⟩ rfl (pX9_step39 (S := S) (s := (-(x))) (st := st) hs hh hdp hl) (by omega) (Nat.le_of_ble_eq_true rfl) ?_
          rintro S2 ⟨hs2, hh2, f2⟩
          rw [e48] at hs2 hh2
          refine k_iincN (g := 1) (a := j) (L2 := [_, _, _, _, _]) eX9_given_90 (Nat.le_of_ble_eq_true rfl) rfl rfl ?_
          refine k_goto 9 eX9_given_93 (by decide) ?_
          refine k_forget 4 (L2 := [_, _, _, _, _]) rfl ?_
          obtain rfl : sk = false := (Bool.not_eq_true _).mp c_29
          rw [gv, if_neg c_29, if_neg c_52, if_neg c_64]
          exact ih (j + 1) false _ _ S2 (by omega) hs2 hh2 hlen2 hwf2 (fun q => by cases q) (fun _ => rfl) (f0.tr f2)
        have hd1 := hnsk (Bool.not_eq_true _ |>.mp c_29)
        rw [wfc, if_pos (Or.inr c_64)] at hwf
        obtain ⟨a, r, rfl⟩ := len1 (st := st) (by omega)
        have hr0 : r = [] := len0 (by simp only [List.length_cons] at hd1; omega)
        subst hr0
        refine k_aload_n eX9_given_67 rfl ?_
        refine cV1 (M' := MX9_pop) eX9_given_68 mX9_37 wX9_pop vX9_pop ⟨_, _, _, rfl, rfl, rfl⟩ rfl (pX9_pop39 (S := S) (n := 0) hh (by omega)) (by omega) (Nat.le_of_ble_eq_true rfl) ?_
        refine k_topi (a) hs.1 ?_
        refine k_if_ne 78 eX9_given_71 (by decide) (fun c_71 => ?_) (fun c_71 => ?_)
        · refine k_iconst (v := nI 0) eX9_given_78 (by decide) ?_
          refine k_istore_n (L2 := [_, _, _, _, _]) eX9_given_79 (Nat.le_of_ble_eq_true rfl) rfl ?_
          refine k_goto 90 eX9_given_80 (by decide) ?_
          refine k_iincN (g := 1) (a := j) (L2 := [_, _, _, _, _]) eX9_given_90 (Nat.le_of_ble_eq_true rfl) rfl rfl ?_
          refine k_goto 9 eX9_given_93 (by decide) ?_
          refine k_forget 4 (L2 := [_, _, _, _, _]) rfl ?_
          rw [gv, if_neg c_29, if_neg c_52, if_pos c_64, show decide (hdI [a] = 0) = false from decide_eq_false c_71]
          exact ih (j + 1) false [] 0 _ (by omega) trivial rfl (by decide) hwf.2 (fun _ => rfl) (fun _ => rfl) ((f0.si (by decide) _))
        refine k_iconst (v := nI 1) eX9_given_74 (by decide) ?_
        refine k_goto 79 eX9_given_75 (by decide) ?_
        refine k_istore_n (L2 := [_, _, _, _, _]) eX9_given_79 (Nat.le_of_ble_eq_true rfl) rfl ?_
        refine k_goto 90 eX9_given_80 (by decide) ?_
        refine k_iincN (g := 1) (a := j) (L2 := [_, _, _, _, _]) eX9_given_90 (Nat.le_of_ble_eq_true rfl) rfl rfl ?_
        refine k_goto 9 eX9_given_93 (by decide) ?_
        refine k_forget 4 (L2 := [_, _, _, _, _]) rfl ?_
        rw [gv, if_neg c_29, if_neg c_52, if_pos c_64, show decide (hdI [a] = 0) = true from decide_eq_true c_71]
        exact ih (j + 1) true [] 0 _ (by omega) trivial rfl (by decide) hwf.2 (fun _ => rfl) (fun _ => rfl) ((f0.si (by decide) _))
      have hd1 := hnsk (Bool.not_eq_true _ |>.mp c_29)
      rw [wfc, if_pos (Or.inl c_52)] at hwf
      obtain ⟨a, r, rfl⟩ := len1 (st := st) (by omega)
      have hr0 : r = [] := len0 (by simp only [List.length_cons] at hd1; omega)
      subst hr0
      refine k_aload_n eX9_given_55 rfl ?_
      refine cV1 (M' := MX9_pop) eX9_given_56 mX9_37 wX9_pop vX9_pop ⟨_, _, _, rfl, rfl, rfl⟩ rfl (pX9_pop39 (S := S) (n := 0) hh (by omega)) (by omega) (Nat.le_of_ble_eq_true rfl) ?_
      refine k_topi (a) hs.1 ?_
      refine k_ireturn eX9_given_59 rfl rfl ?_
      rw [gv, if_neg c_29, if_pos c_52]
      exact ⟨rfl, _, rfl, (f0.si (by decide) _)⟩
    refine k_iload eX9_given_32 rfl ?_
    refine k_bipush (v := nI 59) eX9_given_34 (by decide) ?_
    refine k_icmp_eq 43 eX9_given_36 (by decide) (fun c_36 => ?_) (fun c_36 => ?_)
    · refine k_iconst (v := nI 0) eX9_given_43 (by decide) ?_
      refine k_istore_n (L2 := [_, _, _, _, _]) eX9_given_44 (Nat.le_of_ble_eq_true rfl) rfl ?_
      refine k_goto 90 eX9_given_45 (by decide) ?_
      refine k_iincN (g := 1) (a := j) (L2 := [_, _, _, _, _]) eX9_given_90 (Nat.le_of_ble_eq_true rfl) rfl rfl ?_
      refine k_goto 9 eX9_given_93 (by decide) ?_
      refine k_forget 4 (L2 := [_, _, _, _, _]) rfl ?_
      rw [gv, if_pos c_29, show decide (¬ -x = nI 59) = false from decide_eq_false (not_not_intro c_36)]
      have hst := hsk c_29
      subst hst
      rw [wfc, if_pos (Or.inl c_36)] at hwf
      exact ih (j + 1) false [] 0 S (by omega) hs hh hl hwf.2 (fun _ => rfl) (fun _ => rfl) f0
    refine k_iconst (v := nI 1) eX9_given_39 (by decide) ?_
    refine k_goto 44 eX9_given_40 (by decide) ?_
    refine k_istore_n (L2 := [_, _, _, _, _]) eX9_given_44 (Nat.le_of_ble_eq_true rfl) rfl ?_
    refine k_goto 90 eX9_given_45 (by decide) ?_
    refine k_iincN (g := 1) (a := j) (L2 := [_, _, _, _, _]) eX9_given_90 (Nat.le_of_ble_eq_true rfl) rfl rfl ?_
    refine k_goto 9 eX9_given_93 (by decide) ?_
    refine k_forget 4 (L2 := [_, _, _, _, _]) rfl ?_
    rw [gv, if_pos c_29, show decide (¬ -x = nI 59) = true from decide_eq_true c_36]
    have hst := hsk c_29
    subst hst
    obtain ⟨d2, hd2⟩ := wfc_tl hwf
    exact ih (j + 1) true [] d2 S (by omega) hs hh hl hd2 (fun _ => rfl) (fun q => by cases q) f0
set_option maxHeartbeats 400000 in
theorem pX9_given39 {S : k_S} {n0 : Nat} (hn : S.1 1951 = nI n0) (hn0 : n0 ≤ 240) (hwf : wfc (cds (S.2.1 40) 0 n0) 0) : Sp 3 0 0 MX9_given [.ref 39, .ref 48] (hp S) (Rx (some (.int (gv (S.2.1 48) (cds (S.2.1 40) 0 n0) false []))) (fun S' => Frm [1953] [41] [] S S')) := by
  refine Sp_of (by decide +kernel) (Nat.le_of_ble_eq_true rfl) ?_
  show AW none MX9_given 3 0 0 0 [.ref 39, .ref 48, .null, .null, .null] [] (hp S) _
  refine k_aload_n eX9_given_0 rfl ?_
  refine k_iconst (v := nI 0) eX9_given_1 (by decide) ?_
  refine PX9_34_39 eX9_given_2 rfl ?_
  refine k_iconst (v := nI 0) eX9_given_5 (by decide) ?_
  refine k_istore_n (L2 := [_, _, _, _, _]) eX9_given_6 (Nat.le_of_ble_eq_true rfl) rfl ?_
  refine k_iconst (v := nI 0) eX9_given_7 (by decide) ?_
  refine k_istore_n (L2 := [_, _, _, _, _]) eX9_given_8 (Nat.le_of_ble_eq_true rfl) rfl ?_
  refine AW.mono (lX9_given39 (by decide) (S0 := S) hn hn0 n0 0 false [] 0 (si S 1953 (nI 0)) (by omega) trivial rfl (by decide) hwf (fun _ => rfl) (fun _ => rfl) (((Frm.rf S).si (by decide) _))) (fun _ _ q => q)
set_option maxHeartbeats 400000 in
theorem pX9_step42 {S : k_S} {s : Int32} {st : List Int32} (hs : stk (S.2.1 44) st) (hh : S.1 2103 = nI st.length) (hd : dpOk s st) (hl : st.length ≤ 120) : Sp 2 0 0 MX9_step [.ref 42, .int (s), .ref 48] (hp S) (Rx none (fun S' => stk (S'.2.1 44) (stepL (S.2.1 48) s st) ∧ S'.1 2103 = nI (stepL (S.2.1 48) s st).length ∧ Frm [2103] [44] [] S S')) := by
  refine Sp_of (by decide +kernel) (Nat.le_of_ble_eq_true rfl) ?_
  show AW none MX9_step 2 0 0 0 [.ref 42, .int (s), .ref 48, .null] [] (hp S) _
  refine k_iload_n eX9_step_0 rfl ?_
  refine k_if_gt 13 eX9_step_1 (by decide) (fun c_1 => ?_) (fun c_1 => ?_)
  · refine k_iload_n eX9_step_13 rfl ?_
    refine cS1 (M' := MX9_nameOf) eX9_step_14 mX9_49 wX9_nameOf sX9_nameOf rfl (pX9_nameOf (s)) (by decide) (Nat.le_of_ble_eq_true rfl) ?_
    refine k_if_lt 35 eX9_step_17 (by decide) (fun c_17 => ?_) (fun c_17 => ?_)
    · refine k_iload_n eX9_step_35 rfl ?_
      refine k_bipush (v := nI 33) eX9_step_36 (by decide) ?_
      refine k_icmp_ne 60 eX9_step_38 (by decide) (fun c_38 => ?_) (fun c_38 => ?_)
      · refine k_iload_n eX9_step_60 rfl ?_
        refine k_bipush (v := nI 126) eX9_step_61 (by decide) ?_
        refine k_icmp_ne 78 eX9_step_63 (by decide) (fun c_63 => ?_) (fun c_63 => ?_)
        · obtain ⟨b, a, r, rfl⟩ := hd.2.2 c_1 (Int32.not_le.mpr c_17) (fun q => q.elim c_38 c_63)
          simp only [List.length_cons] at hh hl
          refine k_aload_n eX9_step_78 rfl ?_
          refine cV1 (M' := MX9_pop) eX9_step_79 mX9_37 wX9_pop vX9_pop ⟨_, _, _, rfl, rfl, rfl⟩ rfl (pX9_pop42 (S := S) (n := r.length + 1) hh (by omega)) (by decide) (Nat.le_of_ble_eq_true rfl) ?_
          refine k_topi (b) hs.1 ?_
          refine k_istore_n (L2 := [_, _, _, _]) eX9_step_82 (Nat.le_of_ble_eq_true rfl) rfl ?_
          refine k_aload_n eX9_step_83 rfl ?_
          refine k_iload_n eX9_step_84 rfl ?_
          refine k_aload_n eX9_step_85 rfl ?_
          refine cV1 (M' := MX9_pop) eX9_step_86 mX9_37 wX9_pop vX9_pop ⟨_, _, _, rfl, rfl, rfl⟩ rfl (pX9_pop42 (S := (si S 2103 (nI (r.length + 1)))) (n := r.length) rfl (by omega)) (by decide) (Nat.le_of_ble_eq_true rfl) ?_
          refine k_topi (a) hs.2.1 ?_
          refine k_iload_n eX9_step_89 rfl ?_
          refine cS1 (M' := MX9_joined) eX9_step_90 mX9_53 wX9_joined sX9_joined rfl (pX9_joined (s) (a) (b)) (by decide) (Nat.le_of_ble_eq_true rfl) ?_
          refine cV0 (M' := MX9_push) eX9_step_93 mX9_45 wX9_push vX9_push ⟨_, _, _, rfl, rfl, rfl⟩ rfl (pX9_push42 (S := (si (si S 2103 (nI (r.length + 1))) 2103 (nI (r.length)))) (n := r.length) rfl (by omega) ((jn (s) (a) (b)))) (by decide) (Nat.le_of_ble_eq_true rfl) ?_
          refine k_return eX9_step_96 rfl ?_
          have e : stepL (S.2.1 48) s (b :: a :: r) = jn s a b :: r := by unfold stepL; rw [if_neg (not_not_intro c_1), if_neg (Int32.not_le.mpr c_17), if_neg c_38, if_neg c_63]; rfl
          rw [e]
          exact ⟨rfl, _, rfl, stk_push hs.2.2, rfl, (((((Frm.rf S).si (by decide) _).si (by decide) _).sa (by decide) _).si (by decide) _)⟩
        obtain ⟨a, r, rfl⟩ := hd.2.1 c_1 (Int32.not_le.mpr c_17) (Or.inr c_63)
        simp only [List.length_cons] at hh hl
        refine k_aload_n eX9_step_66 rfl ?_
        refine k_aload_n eX9_step_67 rfl ?_
        refine cV1 (M' := MX9_pop) eX9_step_68 mX9_37 wX9_pop vX9_pop ⟨_, _, _, rfl, rfl, rfl⟩ rfl (pX9_pop42 (S := S) (n := r.length) hh (by omega)) (by decide) (Nat.le_of_ble_eq_true rfl) ?_
        refine k_topi (a) hs.1 ?_
        refine k_ineg eX9_step_71 ?_
        refine cV0 (M' := MX9_push) eX9_step_72 mX9_45 wX9_push vX9_push ⟨_, _, _, rfl, rfl, rfl⟩ rfl (pX9_push42 (S := (si S 2103 (nI (r.length)))) (n := r.length) rfl (by omega) ((-(a)))) (by decide) (Nat.le_of_ble_eq_true rfl) ?_
        refine k_goto 96 eX9_step_75 (by decide) ?_
        refine k_return eX9_step_96 rfl ?_
        have e : stepL (S.2.1 48) s (a :: r) = (-a) :: r := by unfold stepL; rw [if_neg (not_not_intro c_1), if_neg (Int32.not_le.mpr c_17), if_neg c_38, if_pos c_63]; rfl
        rw [e]
        exact ⟨rfl, _, rfl, stk_push hs.2, rfl, ((((Frm.rf S).si (by decide) _).sa (by decide) _).si (by decide) _)⟩
      obtain ⟨a, r, rfl⟩ := hd.2.1 c_1 (Int32.not_le.mpr c_17) (Or.inl c_38)
      simp only [List.length_cons] at hh hl
      refine k_aload_n eX9_step_41 rfl ?_
      refine k_aload_n eX9_step_42 rfl ?_
      refine cV1 (M' := MX9_pop) eX9_step_43 mX9_37 wX9_pop vX9_pop ⟨_, _, _, rfl, rfl, rfl⟩ rfl (pX9_pop42 (S := S) (n := r.length) hh (by omega)) (by decide) (Nat.le_of_ble_eq_true rfl) ?_
      refine k_topi (a) hs.1 ?_
      refine k_if_ne 53 eX9_step_46 (by decide) (fun c_46 => ?_) (fun c_46 => ?_)
      · refine k_iconst (v := nI 0) eX9_step_53 (by decide) ?_
        refine cV0 (M' := MX9_push) eX9_step_54 mX9_45 wX9_push vX9_push ⟨_, _, _, rfl, rfl, rfl⟩ rfl (pX9_push42 (S := (si S 2103 (nI (r.length)))) (n := r.length) rfl (by omega) (nI 0)) (by decide) (Nat.le_of_ble_eq_true rfl) ?_
        refine k_goto 96 eX9_step_57 (by decide) ?_
        refine k_return eX9_step_96 rfl ?_
        have e : stepL (S.2.1 48) s (a :: r) = nI 0 :: r := by unfold stepL; rw [if_neg (not_not_intro c_1), if_neg (Int32.not_le.mpr c_17), if_pos c_38]; show b2i (a = 0) :: r = _; rw [b2i_f c_46]
        rw [e]
        exact ⟨rfl, _, rfl, stk_push hs.2, rfl, ((((Frm.rf S).si (by decide) _).sa (by decide) _).si (by decide) _)⟩
      refine k_iconst (v := nI 1) eX9_step_49 (by decide) ?_
      refine k_goto 54 eX9_step_50 (by decide) ?_
      refine cV0 (M' := MX9_push) eX9_step_54 mX9_45 wX9_push vX9_push ⟨_, _, _, rfl, rfl, rfl⟩ rfl (pX9_push42 (S := (si S 2103 (nI (r.length)))) (n := r.length) rfl (by omega) (nI 1)) (by decide) (Nat.le_of_ble_eq_true rfl) ?_
      refine k_goto 96 eX9_step_57 (by decide) ?_
      refine k_return eX9_step_96 rfl ?_
      have e : stepL (S.2.1 48) s (a :: r) = nI 1 :: r := by unfold stepL; rw [if_neg (not_not_intro c_1), if_neg (Int32.not_le.mpr c_17), if_pos c_38]; show b2i (a = 0) :: r = _; rw [b2i_t c_46]
      rw [e]
      exact ⟨rfl, _, rfl, stk_push hs.2, rfl, ((((Frm.rf S).si (by decide) _).sa (by decide) _).si (by decide) _)⟩
    refine k_aload_n eX9_step_20 rfl ?_
    refine k_aload_n eX9_step_21 rfl ?_
    refine k_iload_n eX9_step_22 rfl ?_
    refine cS1 (M' := MX9_nameOf) eX9_step_23 mX9_49 wX9_nameOf sX9_nameOf rfl (pX9_nameOf (s)) (by decide) (Nat.le_of_ble_eq_true rfl) ?_
    refine k_topi (nI (ix (nam s))) (nam_rng s (Int32.not_lt.mp c_17)).1 ?_
    refine cN1 (M' := MX11_read) eX9_step_26 mX9_26 wX11_read sX11_read rfl (pX11_readN (j := ix (nam s)) (ar48 _) (nam_rng s (Int32.not_lt.mp c_17)).2 (by decide)) (by decide) (Nat.le_of_ble_eq_true rfl) ?_
    refine cV0 (M' := MX9_push) eX9_step_29 mX9_45 wX9_push vX9_push ⟨_, _, _, rfl, rfl, rfl⟩ rfl (pX9_push42 (S := S) (n := st.length) hh (by have := hd.1 (Or.inr (Int32.not_lt.mp c_17)); omega) ((S.2.1 48 (ix (nam s))))) (by decide) (Nat.le_of_ble_eq_true rfl) ?_
    refine k_goto 96 eX9_step_32 (by decide) ?_
    refine k_return eX9_step_96 rfl ?_
    have e : stepL (S.2.1 48) s st = S.2.1 48 (ix (nam s)) :: st := by unfold stepL; rw [if_neg (not_not_intro c_1), if_pos (Int32.not_lt.mp c_17)]
    rw [e]
    exact ⟨rfl, _, rfl, stk_push hs, rfl, (((Frm.rf S).sa (by decide) _).si (by decide) _)⟩
  refine k_aload_n eX9_step_4 rfl ?_
  refine k_iload_n eX9_step_5 rfl ?_
  refine k_ineg eX9_step_6 ?_
  refine cV0 (M' := MX9_push) eX9_step_7 mX9_45 wX9_push vX9_push ⟨_, _, _, rfl, rfl, rfl⟩ rfl (pX9_push42 (S := S) (n := st.length) hh (by have := hd.1 (Or.inl c_1); omega) ((-(s)))) (by decide) (Nat.le_of_ble_eq_true rfl) ?_
  refine k_goto 96 eX9_step_10 (by decide) ?_
  refine k_return eX9_step_96 rfl ?_
  have e : stepL (S.2.1 48) s st = (-s) :: st := by unfold stepL; rw [if_pos c_1]
  rw [e]
  exact ⟨rfl, _, rfl, stk_push hs, rfl, (((Frm.rf S).sa (by decide) _).si (by decide) _)⟩
theorem lX9_given42 {d0 : Nat} (hdd : 3 ≤ d0) {S0 : k_S} {n0 : Nat} (hn : S0.1 2101 = nI n0) (hn0 : n0 ≤ 240) : ∀ (k j : Nat) (sk : Bool) (st : List Int32) (d : Nat) (S : k_S), j + k = n0 → stk (S.2.1 44) st → S.1 2103 = nI st.length → st.length ≤ 120 → wfc (cds (S0.2.1 43) j k) d → (sk = true → st = []) → (sk = false → d = st.length) → Frm [2103] [44] [] S0 S → AW none MX9_given d0 0 0 9 [.ref 42, .ref 48, .int (b2i (sk = true)), .int (nI j), .null] [] (hp S) (Rx (some (.int (gv (S0.2.1 48) (cds (S0.2.1 43) j k) sk st))) (fun S' => Frm [2103] [44] [] S0 S')) := by
  intro k
  induction k with
  | zero =>
    intro j sk st d S hj hs hh hl hwf hsk hnsk f0
    rw [show j = n0 by omega]
    refine k_iload_n eX9_given_9 rfl ?_
    refine k_aload_n eX9_given_10 rfl ?_
    refine GX9_15_42 eX9_given_11 rfl ?_
    refine k_topi (nI n0) ((f0.1 2101 (by decide)).trans hn) ?_
    refine k_icmp_geN 96 eX9_given_14 (by decide) (by omega) (by omega) (fun c_14 => ?_) (fun c_14 => by exfalso; omega)
    refine k_iconst (v := nI 0) eX9_given_96 (by decide) ?_
    refine k_ireturn eX9_given_97 rfl rfl ?_
    exact ⟨rfl, _, rfl, f0⟩
  | succ k ih =>
    intro j sk st d S hj hs hh hl hwf hsk hnsk f0
    obtain ⟨x, hx⟩ : ∃ x, S0.2.1 43 j = x := ⟨_, rfl⟩
    have ec : cds (S0.2.1 43) j (k + 1) = x :: cds (S0.2.1 43) (j + 1) k := by rw [← hx]; rfl
    rw [ec] at hwf
    rw [ec]
    refine k_iload_n eX9_given_9 rfl ?_
    refine k_aload_n eX9_given_10 rfl ?_
    refine GX9_15_42 eX9_given_11 rfl ?_
    refine k_topi (nI n0) ((f0.1 2101 (by decide)).trans hn) ?_
    refine k_icmp_geN 96 eX9_given_14 (by decide) (by omega) (by omega) (fun c_14 => by exfalso; omega) (fun c_14 => ?_)
    refine k_aload_n eX9_given_17 rfl ?_
    refine GX9_9_42 eX9_given_18 rfl ?_
    refine k_iload_n eX9_given_21 rfl ?_
    refine cN1 (M' := MX11_read) eX9_given_22 mX9_26 wX11_read sX11_read rfl (pX11_readN (j := j) (ar43 _) (by omega) (by decide)) (by omega) (Nat.le_of_ble_eq_true rfl) ?_
    refine k_topi (x) ((congrFun (f0.2.1 43 (by decide)) j).trans hx) ?_
    refine k_ineg eX9_given_25 ?_
    refine k_istore (L2 := [_, _, _, _, _]) eX9_given_26 (Nat.le_of_ble_eq_true rfl) rfl ?_
    refine k_iload_n eX9_given_28 rfl ?_
    refine k_ifb_eq 48 eX9_given_29 (by decide) (fun c_29 => ?_) (fun c_29 => ?_)
    · refine k_iload eX9_given_48 rfl ?_
      refine k_bipush (v := nI 59) eX9_given_50 (by decide) ?_
      refine k_icmp_ne 60 eX9_given_52 (by decide) (fun c_52 => ?_) (fun c_52 => ?_)
      · refine k_iload eX9_given_60 rfl ?_
        refine k_bipush (v := nI 63) eX9_given_62 (by decide) ?_
        refine k_icmp_ne 83 eX9_given_64 (by decide) (fun c_64 => ?_) (fun c_64 => ?_)
        · have hd1 := hnsk (Bool.not_eq_true _ |>.mp c_29)
          subst hd1
          obtain ⟨hdp, hwf2, hlen2⟩ := wfc_step (S.2.1 48) hwf c_52 c_64 hl
          have e48 : S.2.1 48 = S0.2.1 48 := f0.2.1 48 (by decide)
          rw [e48] at hwf2 hlen2
          refine k_aload_n eX9_given_83 rfl ?_
          refine k_iload eX9_given_84 rfl ?_
          refine k_aload_n eX9_given_86 rfl ?_
          refine cVX0 (v := .null) (M' := MX9_step) eX9_given_87 mX9_41 wX9_step vX9_step ⟨_, _, _, rfl, rfl, rfl⟩ rfl (pX9_step42 (S := S) (s := (-(x))) (st := st) hs hh hdp hl) (by omega) (Nat.le_of_ble_eq_true rfl) ?_
          rintro S2 ⟨hs2, hh2, f2⟩
          rw [e48] at hs2 hh2
          refine k_iincN (g := 1) (a := j) (L2 := [_, _, _, _, _]) eX9_given_90 (Nat.le_of_ble_eq_true rfl) rfl rfl ?_
          refine k_goto 9 eX9_given_93 (by decide) ?_
          refine k_forget 4 (L2 := [_, _, _, _, _]) rfl ?_
          obtain rfl : sk = false := (Bool.not_eq_true _).mp c_29
          rw [gv, if_neg c_29, if_neg c_52, if_neg c_64]
          exact ih (j + 1) false _ _ S2 (by omega) hs2 hh2 hlen2 hwf2 (fun q => by cases q) (fun _ => rfl) (f0.tr f2)
        have hd1 := hnsk (Bool.not_eq_true _ |>.mp c_29)
        rw [wfc, if_pos (Or.inr c_64)] at hwf
        obtain ⟨a, r, rfl⟩ := len1 (st := st) (by omega)
        have hr0 : r = [] := len0 (by simp only [List.length_cons] at hd1; omega)
        subst hr0
        refine k_aload_n eX9_given_67 rfl ?_
        refine cV1 (M' := MX9_pop) eX9_given_68 mX9_37 wX9_pop vX9_pop ⟨_, _, _, rfl, rfl, rfl⟩ rfl (pX9_pop42 (S := S) (n := 0) hh (by omega)) (by omega) (Nat.le_of_ble_eq_true rfl) ?_
        refine k_topi (a) hs.1 ?_
        refine k_if_ne 78 eX9_given_71 (by decide) (fun c_71 => ?_) (fun c_71 => ?_)
        · refine k_iconst (v := nI 0) eX9_given_78 (by decide) ?_
          refine k_istore_n (L2 := [_, _, _, _, _]) eX9_given_79 (Nat.le_of_ble_eq_true rfl) rfl ?_
          refine k_goto 90 eX9_given_80 (by decide) ?_
          refine k_iincN (g := 1) (a := j) (L2 := [_, _, _, _, _]) eX9_given_90 (Nat.le_of_ble_eq_true rfl) rfl rfl ?_
          refine k_goto 9 eX9_given_93 (by decide) ?_
          refine k_forget 4 (L2 := [_, _, _, _, _]) rfl ?_
          rw [gv, if_neg c_29, if_neg c_52, if_pos c_64, show decide (hdI [a] = 0) = false from decide_eq_false c_71]
          exact ih (j + 1) false [] 0 _ (by omega) trivial rfl (by decide) hwf.2 (fun _ => rfl) (fun _ => rfl) ((f0.si (by decide) _))
        refine k_iconst (v := nI 1) eX9_given_74 (by decide) ?_
        refine k_goto 79 eX9_given_75 (by decide) ?_
        refine k_istore_n (L2 := [_, _, _, _, _]) eX9_given_79 (Nat.le_of_ble_eq_true rfl) rfl ?_
        refine k_goto 90 eX9_given_80 (by decide) ?_
        refine k_iincN (g := 1) (a := j) (L2 := [_, _, _, _, _]) eX9_given_90 (Nat.le_of_ble_eq_true rfl) rfl rfl ?_
        refine k_goto 9 eX9_given_93 (by decide) ?_
        refine k_forget 4 (L2 := [_, _, _, _, _]) rfl ?_
        rw [gv, if_neg c_29, if_neg c_52, if_pos c_64, show decide (hdI [a] = 0) = true from decide_eq_true c_71]
        exact ih (j + 1) true [] 0 _ (by omega) trivial rfl (by decide) hwf.2 (fun _ => rfl) (fun _ => rfl) ((f0.si (by decide) _))
      have hd1 := hnsk (Bool.not_eq_true _ |>.mp c_29)
      rw [wfc, if_pos (Or.inl c_52)] at hwf
      obtain ⟨a, r, rfl⟩ := len1 (st := st) (by omega)
      have hr0 : r = [] := len0 (by simp only [List.length_cons] at hd1; omega)
      subst hr0
      refine k_aload_n eX9_given_55 rfl ?_
      refine cV1 (M' := MX9_pop) eX9_given_56 mX9_37 wX9_pop vX9_pop ⟨_, _, _, rfl, rfl, rfl⟩ rfl (pX9_pop42 (S := S) (n := 0) hh (by omega)) (by omega) (Nat.le_of_ble_eq_true rfl) ?_
      refine k_topi (a) hs.1 ?_
      refine k_ireturn eX9_given_59 rfl rfl ?_
      rw [gv, if_neg c_29, if_pos c_52]
      exact ⟨rfl, _, rfl, (f0.si (by decide) _)⟩
    refine k_iload eX9_given_32 rfl ?_
    refine k_bipush (v := nI 59) eX9_given_34 (by decide) ?_
    refine k_icmp_eq 43 eX9_given_36 (by decide) (fun c_36 => ?_) (fun c_36 => ?_)
    · refine k_iconst (v := nI 0) eX9_given_43 (by decide) ?_
      refine k_istore_n (L2 := [_, _, _, _, _]) eX9_given_44 (Nat.le_of_ble_eq_true rfl) rfl ?_
      refine k_goto 90 eX9_given_45 (by decide) ?_
      refine k_iincN (g := 1) (a := j) (L2 := [_, _, _, _, _]) eX9_given_90 (Nat.le_of_ble_eq_true rfl) rfl rfl ?_
      refine k_goto 9 eX9_given_93 (by decide) ?_
      refine k_forget 4 (L2 := [_, _, _, _, _]) rfl ?_
      rw [gv, if_pos c_29, show decide (¬ -x = nI 59) = false from decide_eq_false (not_not_intro c_36)]
      have hst := hsk c_29
      subst hst
      rw [wfc, if_pos (Or.inl c_36)] at hwf
      exact ih (j + 1) false [] 0 S (by omega) hs hh hl hwf.2 (fun _ => rfl) (fun _ => rfl) f0
    refine k_iconst (v := nI 1) eX9_given_39 (by decide) ?_
    refine k_goto 44 eX9_given_40 (by decide) ?_
    refine k_istore_n (L2 := [_, _, _, _, _]) eX9_given_44 (Nat.le_of_ble_eq_true rfl) rfl ?_
    refine k_goto 90 eX9_given_45 (by decide) ?_
    refine k_iincN (g := 1) (a := j) (L2 := [_, _, _, _, _]) eX9_given_90 (Nat.le_of_ble_eq_true rfl) rfl rfl ?_
    refine k_goto 9 eX9_given_93 (by decide) ?_
    refine k_forget 4 (L2 := [_, _, _, _, _]) rfl ?_
    rw [gv, if_pos c_29, show decide (¬ -x = nI 59) = true from decide_eq_true c_36]
    have hst := hsk c_29
    subst hst
    obtain ⟨d2, hd2⟩ := wfc_tl hwf
    exact ih (j + 1) true [] d2 S (by omega) hs hh hl hd2 (fun _ => rfl) (fun q => by cases q) f0
set_option maxHeartbeats 400000 in
theorem pX9_given42 {S : k_S} {n0 : Nat} (hn : S.1 2101 = nI n0) (hn0 : n0 ≤ 240) (hwf : wfc (cds (S.2.1 43) 0 n0) 0) : Sp 3 0 0 MX9_given [.ref 42, .ref 48] (hp S) (Rx (some (.int (gv (S.2.1 48) (cds (S.2.1 43) 0 n0) false []))) (fun S' => Frm [2103] [44] [] S S')) := by
  refine Sp_of (by decide +kernel) (Nat.le_of_ble_eq_true rfl) ?_
  show AW none MX9_given 3 0 0 0 [.ref 42, .ref 48, .null, .null, .null] [] (hp S) _
  refine k_aload_n eX9_given_0 rfl ?_
  refine k_iconst (v := nI 0) eX9_given_1 (by decide) ?_
  refine PX9_34_42 eX9_given_2 rfl ?_
  refine k_iconst (v := nI 0) eX9_given_5 (by decide) ?_
  refine k_istore_n (L2 := [_, _, _, _, _]) eX9_given_6 (Nat.le_of_ble_eq_true rfl) rfl ?_
  refine k_iconst (v := nI 0) eX9_given_7 (by decide) ?_
  refine k_istore_n (L2 := [_, _, _, _, _]) eX9_given_8 (Nat.le_of_ble_eq_true rfl) rfl ?_
  refine AW.mono (lX9_given42 (by decide) (S0 := S) hn hn0 n0 0 false [] 0 (si S 2103 (nI 0)) (by omega) trivial rfl (by decide) hwf (fun _ => rfl) (fun _ => rfl) (((Frm.rf S).si (by decide) _))) (fun _ _ q => q)
set_option maxHeartbeats 400000 in
theorem pX9_step45 {S : k_S} {s : Int32} {st : List Int32} (hs : stk (S.2.1 47) st) (hh : S.1 2253 = nI st.length) (hd : dpOk s st) (hl : st.length ≤ 120) : Sp 2 0 0 MX9_step [.ref 45, .int (s), .ref 48] (hp S) (Rx none (fun S' => stk (S'.2.1 47) (stepL (S.2.1 48) s st) ∧ S'.1 2253 = nI (stepL (S.2.1 48) s st).length ∧ Frm [2253] [47] [] S S')) := by
  refine Sp_of (by decide +kernel) (Nat.le_of_ble_eq_true rfl) ?_
  show AW none MX9_step 2 0 0 0 [.ref 45, .int (s), .ref 48, .null] [] (hp S) _
  refine k_iload_n eX9_step_0 rfl ?_
  refine k_if_gt 13 eX9_step_1 (by decide) (fun c_1 => ?_) (fun c_1 => ?_)
  · refine k_iload_n eX9_step_13 rfl ?_
    refine cS1 (M' := MX9_nameOf) eX9_step_14 mX9_49 wX9_nameOf sX9_nameOf rfl (pX9_nameOf (s)) (by decide) (Nat.le_of_ble_eq_true rfl) ?_
    refine k_if_lt 35 eX9_step_17 (by decide) (fun c_17 => ?_) (fun c_17 => ?_)
    · refine k_iload_n eX9_step_35 rfl ?_
      refine k_bipush (v := nI 33) eX9_step_36 (by decide) ?_
      refine k_icmp_ne 60 eX9_step_38 (by decide) (fun c_38 => ?_) (fun c_38 => ?_)
      · refine k_iload_n eX9_step_60 rfl ?_
        refine k_bipush (v := nI 126) eX9_step_61 (by decide) ?_
        refine k_icmp_ne 78 eX9_step_63 (by decide) (fun c_63 => ?_) (fun c_63 => ?_)
        · obtain ⟨b, a, r, rfl⟩ := hd.2.2 c_1 (Int32.not_le.mpr c_17) (fun q => q.elim c_38 c_63)
          simp only [List.length_cons] at hh hl
          refine k_aload_n eX9_step_78 rfl ?_
          refine cV1 (M' := MX9_pop) eX9_step_79 mX9_37 wX9_pop vX9_pop ⟨_, _, _, rfl, rfl, rfl⟩ rfl (pX9_pop45 (S := S) (n := r.length + 1) hh (by omega)) (by decide) (Nat.le_of_ble_eq_true rfl) ?_
          refine k_topi (b) hs.1 ?_
          refine k_istore_n (L2 := [_, _, _, _]) eX9_step_82 (Nat.le_of_ble_eq_true rfl) rfl ?_
          refine k_aload_n eX9_step_83 rfl ?_
          refine k_iload_n eX9_step_84 rfl ?_
          refine k_aload_n eX9_step_85 rfl ?_
          refine cV1 (M' := MX9_pop) eX9_step_86 mX9_37 wX9_pop vX9_pop ⟨_, _, _, rfl, rfl, rfl⟩ rfl (pX9_pop45 (S := (si S 2253 (nI (r.length + 1)))) (n := r.length) rfl (by omega)) (by decide) (Nat.le_of_ble_eq_true rfl) ?_
          refine k_topi (a) hs.2.1 ?_
          refine k_iload_n eX9_step_89 rfl ?_
          refine cS1 (M' := MX9_joined) eX9_step_90 mX9_53 wX9_joined sX9_joined rfl (pX9_joined (s) (a) (b)) (by decide) (Nat.le_of_ble_eq_true rfl) ?_
          refine cV0 (M' := MX9_push) eX9_step_93 mX9_45 wX9_push vX9_push ⟨_, _, _, rfl, rfl, rfl⟩ rfl (pX9_push45 (S := (si (si S 2253 (nI (r.length + 1))) 2253 (nI (r.length)))) (n := r.length) rfl (by omega) ((jn (s) (a) (b)))) (by decide) (Nat.le_of_ble_eq_true rfl) ?_
          refine k_return eX9_step_96 rfl ?_
          have e : stepL (S.2.1 48) s (b :: a :: r) = jn s a b :: r := by unfold stepL; rw [if_neg (not_not_intro c_1), if_neg (Int32.not_le.mpr c_17), if_neg c_38, if_neg c_63]; rfl
          rw [e]
          exact ⟨rfl, _, rfl, stk_push hs.2.2, rfl, (((((Frm.rf S).si (by decide) _).si (by decide) _).sa (by decide) _).si (by decide) _)⟩
        obtain ⟨a, r, rfl⟩ := hd.2.1 c_1 (Int32.not_le.mpr c_17) (Or.inr c_63)
        simp only [List.length_cons] at hh hl
        refine k_aload_n eX9_step_66 rfl ?_
        refine k_aload_n eX9_step_67 rfl ?_
        refine cV1 (M' := MX9_pop) eX9_step_68 mX9_37 wX9_pop vX9_pop ⟨_, _, _, rfl, rfl, rfl⟩ rfl (pX9_pop45 (S := S) (n := r.length) hh (by omega)) (by decide) (Nat.le_of_ble_eq_true rfl) ?_
        refine k_topi (a) hs.1 ?_
        refine k_ineg eX9_step_71 ?_
        refine cV0 (M' := MX9_push) eX9_step_72 mX9_45 wX9_push vX9_push ⟨_, _, _, rfl, rfl, rfl⟩ rfl (pX9_push45 (S := (si S 2253 (nI (r.length)))) (n := r.length) rfl (by omega) ((-(a)))) (by decide) (Nat.le_of_ble_eq_true rfl) ?_
        refine k_goto 96 eX9_step_75 (by decide) ?_
        refine k_return eX9_step_96 rfl ?_
        have e : stepL (S.2.1 48) s (a :: r) = (-a) :: r := by unfold stepL; rw [if_neg (not_not_intro c_1), if_neg (Int32.not_le.mpr c_17), if_neg c_38, if_pos c_63]; rfl
        rw [e]
        exact ⟨rfl, _, rfl, stk_push hs.2, rfl, ((((Frm.rf S).si (by decide) _).sa (by decide) _).si (by decide) _)⟩
      obtain ⟨a, r, rfl⟩ := hd.2.1 c_1 (Int32.not_le.mpr c_17) (Or.inl c_38)
      simp only [List.length_cons] at hh hl
      refine k_aload_n eX9_step_41 rfl ?_
      refine k_aload_n eX9_step_42 rfl ?_
      refine cV1 (M' := MX9_pop) eX9_step_43 mX9_37 wX9_pop vX9_pop ⟨_, _, _, rfl, rfl, rfl⟩ rfl (pX9_pop45 (S := S) (n := r.length) hh (by omega)) (by decide) (Nat.le_of_ble_eq_true rfl) ?_
      refine k_topi (a) hs.1 ?_
      refine k_if_ne 53 eX9_step_46 (by decide) (fun c_46 => ?_) (fun c_46 => ?_)
      · refine k_iconst (v := nI 0) eX9_step_53 (by decide) ?_
        refine cV0 (M' := MX9_push) eX9_step_54 mX9_45 wX9_push vX9_push ⟨_, _, _, rfl, rfl, rfl⟩ rfl (pX9_push45 (S := (si S 2253 (nI (r.length)))) (n := r.length) rfl (by omega) (nI 0)) (by decide) (Nat.le_of_ble_eq_true rfl) ?_
        refine k_goto 96 eX9_step_57 (by decide) ?_
        refine k_return eX9_step_96 rfl ?_
        have e : stepL (S.2.1 48) s (a :: r) = nI 0 :: r := by unfold stepL; rw [if_neg (not_not_intro c_1), if_neg (Int32.not_le.mpr c_17), if_pos c_38]; show b2i (a = 0) :: r = _; rw [b2i_f c_46]
        rw [e]
        exact ⟨rfl, _, rfl, stk_push hs.2, rfl, ((((Frm.rf S).si (by decide) _).sa (by decide) _).si (by decide) _)⟩
      refine k_iconst (v := nI 1) eX9_step_49 (by decide) ?_
      refine k_goto 54 eX9_step_50 (by decide) ?_
      refine cV0 (M' := MX9_push) eX9_step_54 mX9_45 wX9_push vX9_push ⟨_, _, _, rfl, rfl, rfl⟩ rfl (pX9_push45 (S := (si S 2253 (nI (r.length)))) (n := r.length) rfl (by omega) (nI 1)) (by decide) (Nat.le_of_ble_eq_true rfl) ?_
      refine k_goto 96 eX9_step_57 (by decide) ?_
      refine k_return eX9_step_96 rfl ?_
      have e : stepL (S.2.1 48) s (a :: r) = nI 1 :: r := by unfold stepL; rw [if_neg (not_not_intro c_1), if_neg (Int32.not_le.mpr c_17), if_pos c_38]; show b2i (a = 0) :: r = _; rw [b2i_t c_46]
      rw [e]
      exact ⟨rfl, _, rfl, stk_push hs.2, rfl, ((((Frm.rf S).si (by decide) _).sa (by decide) _).si (by decide) _)⟩
    refine k_aload_n eX9_step_20 rfl ?_
    refine k_aload_n eX9_step_21 rfl ?_
    refine k_iload_n eX9_step_22 rfl ?_
    refine cS1 (M' := MX9_nameOf) eX9_step_23 mX9_49 wX9_nameOf sX9_nameOf rfl (pX9_nameOf (s)) (by decide) (Nat.le_of_ble_eq_true rfl) ?_
    refine k_topi (nI (ix (nam s))) (nam_rng s (Int32.not_lt.mp c_17)).1 ?_
    refine cN1 (M' := MX11_read) eX9_step_26 mX9_26 wX11_read sX11_read rfl (pX11_readN (j := ix (nam s)) (ar48 _) (nam_rng s (Int32.not_lt.mp c_17)).2 (by decide)) (by decide) (Nat.le_of_ble_eq_true rfl) ?_
    refine cV0 (M' := MX9_push) eX9_step_29 mX9_45 wX9_push vX9_push ⟨_, _, _, rfl, rfl, rfl⟩ rfl (pX9_push45 (S := S) (n := st.length) hh (by have := hd.1 (Or.inr (Int32.not_lt.mp c_17)); omega) ((S.2.1 48 (ix (nam s))))) (by decide) (Nat.le_of_ble_eq_true rfl) ?_
    refine k_goto 96 eX9_step_32 (by decide) ?_
    refine k_return eX9_step_96 rfl ?_
    have e : stepL (S.2.1 48) s st = S.2.1 48 (ix (nam s)) :: st := by unfold stepL; rw [if_neg (not_not_intro c_1), if_pos (Int32.not_lt.mp c_17)]
    rw [e]
    exact ⟨rfl, _, rfl, stk_push hs, rfl, (((Frm.rf S).sa (by decide) _).si (by decide) _)⟩
  refine k_aload_n eX9_step_4 rfl ?_
  refine k_iload_n eX9_step_5 rfl ?_
  refine k_ineg eX9_step_6 ?_
  refine cV0 (M' := MX9_push) eX9_step_7 mX9_45 wX9_push vX9_push ⟨_, _, _, rfl, rfl, rfl⟩ rfl (pX9_push45 (S := S) (n := st.length) hh (by have := hd.1 (Or.inl c_1); omega) ((-(s)))) (by decide) (Nat.le_of_ble_eq_true rfl) ?_
  refine k_goto 96 eX9_step_10 (by decide) ?_
  refine k_return eX9_step_96 rfl ?_
  have e : stepL (S.2.1 48) s st = (-s) :: st := by unfold stepL; rw [if_pos c_1]
  rw [e]
  exact ⟨rfl, _, rfl, stk_push hs, rfl, (((Frm.rf S).sa (by decide) _).si (by decide) _)⟩
theorem lX9_given45 {d0 : Nat} (hdd : 3 ≤ d0) {S0 : k_S} {n0 : Nat} (hn : S0.1 2251 = nI n0) (hn0 : n0 ≤ 240) : ∀ (k j : Nat) (sk : Bool) (st : List Int32) (d : Nat) (S : k_S), j + k = n0 → stk (S.2.1 47) st → S.1 2253 = nI st.length → st.length ≤ 120 → wfc (cds (S0.2.1 46) j k) d → (sk = true → st = []) → (sk = false → d = st.length) → Frm [2253] [47] [] S0 S → AW none MX9_given d0 0 0 9 [.ref 45, .ref 48, .int (b2i (sk = true)), .int (nI j), .null] [] (hp S) (Rx (some (.int (gv (S0.2.1 48) (cds (S0.2.1 46) j k) sk st))) (fun S' => Frm [2253] [47] [] S0 S')) := by
  intro k
  induction k with
  | zero =>
    intro j sk st d S hj hs hh hl hwf hsk hnsk f0
    rw [show j = n0 by omega]
    refine k_iload_n eX9_given_9 rfl ?_
    refine k_aload_n eX9_given_10 rfl ?_
    refine GX9_15_45 eX9_given_11 rfl ?_
    refine k_topi (nI n0) ((f0.1 2251 (by decide)).trans hn) ?_
    refine k_icmp_geN 96 eX9_given_14 (by decide) (by omega) (by omega) (fun c_14 => ?_) (fun c_14 => by exfalso; omega)
    refine k_iconst (v := nI 0) eX9_given_96 (by decide) ?_
    refine k_ireturn eX9_given_97 rfl rfl ?_
    exact ⟨rfl, _, rfl, f0⟩
  | succ k ih =>
    intro j sk st d S hj hs hh hl hwf hsk hnsk f0
    obtain ⟨x, hx⟩ : ∃ x, S0.2.1 46 j = x := ⟨_, rfl⟩
    have ec : cds (S0.2.1 46) j (k + 1) = x :: cds (S0.2.1 46) (j + 1) k := by rw [← hx]; rfl
    rw [ec] at hwf
    rw [ec]
    refine k_iload_n eX9_given_9 rfl ?_
    refine k_aload_n eX9_given_10 rfl ?_
    refine GX9_15_45 eX9_given_11 rfl ?_
    refine k_topi (nI n0) ((f0.1 2251 (by decide)).trans hn) ?_
    refine k_icmp_geN 96 eX9_given_14 (by decide) (by omega) (by omega) (fun c_14 => by exfalso; omega) (fun c_14 => ?_)
    refine k_aload_n eX9_given_17 rfl ?_
    refine GX9_9_45 eX9_given_18 rfl ?_
    refine k_iload_n eX9_given_21 rfl ?_
    refine cN1 (M' := MX11_read) eX9_given_22 mX9_26 wX11_read sX11_read rfl (pX11_readN (j := j) (ar46 _) (by omega) (by decide)) (by omega) (Nat.le_of_ble_eq_true rfl) ?_
    refine k_topi (x) ((congrFun (f0.2.1 46 (by decide)) j).trans hx) ?_
    refine k_ineg eX9_given_25 ?_
    refine k_istore (L2 := [_, _, _, _, _]) eX9_given_26 (Nat.le_of_ble_eq_true rfl) rfl ?_
    refine k_iload_n eX9_given_28 rfl ?_
    refine k_ifb_eq 48 eX9_given_29 (by decide) (fun c_29 => ?_) (fun c_29 => ?_)
    · refine k_iload eX9_given_48 rfl ?_
      refine k_bipush (v := nI 59) eX9_given_50 (by decide) ?_
      refine k_icmp_ne 60 eX9_given_52 (by decide) (fun c_52 => ?_) (fun c_52 => ?_)
      · refine k_iload eX9_given_60 rfl ?_
        refine k_bipush (v := nI 63) eX9_given_62 (by decide) ?_
        refine k_icmp_ne 83 eX9_given_64 (by decide) (fun c_64 => ?_) (fun c_64 => ?_)
        · have hd1 := hnsk (Bool.not_eq_true _ |>.mp c_29)
          subst hd1
          obtain ⟨hdp, hwf2, hlen2⟩ := wfc_step (S.2.1 48) hwf c_52 c_64 hl
          have e48 : S.2.1 48 = S0.2.1 48 := f0.2.1 48 (by decide)
          rw [e48] at hwf2 hlen2
          refine k_aload_n eX9_given_83 rfl ?_
          refine k_iload eX9_given_84 rfl ?_
          refine k_aload_n eX9_given_86 rfl ?_
          refine cVX0 (v := .null) (M' := MX9_step) eX9_given_87 mX9_41 wX9_step vX9_step ⟨_, _, _, rfl, rfl, rfl⟩ rfl (pX9_step45 (S := S) (s := (-(x))) (st := st) hs hh hdp hl) (by omega) (Nat.le_of_ble_eq_true rfl) ?_
          rintro S2 ⟨hs2, hh2, f2⟩
          rw [e48] at hs2 hh2
          refine k_iincN (g := 1) (a := j) (L2 := [_, _, _, _, _]) eX9_given_90 (Nat.le_of_ble_eq_true rfl) rfl rfl ?_
          refine k_goto 9 eX9_given_93 (by decide) ?_
          refine k_forget 4 (L2 := [_, _, _, _, _]) rfl ?_
          obtain rfl : sk = false := (Bool.not_eq_true _).mp c_29
          rw [gv, if_neg c_29, if_neg c_52, if_neg c_64]
          exact ih (j + 1) false _ _ S2 (by omega) hs2 hh2 hlen2 hwf2 (fun q => by cases q) (fun _ => rfl) (f0.tr f2)
        have hd1 := hnsk (Bool.not_eq_true _ |>.mp c_29)
        rw [wfc, if_pos (Or.inr c_64)] at hwf
        obtain ⟨a, r, rfl⟩ := len1 (st := st) (by omega)
        have hr0 : r = [] := len0 (by simp only [List.length_cons] at hd1; omega)
        subst hr0
        refine k_aload_n eX9_given_67 rfl ?_
        refine cV1 (M' := MX9_pop) eX9_given_68 mX9_37 wX9_pop vX9_pop ⟨_, _, _, rfl, rfl, rfl⟩ rfl (pX9_pop45 (S := S) (n := 0) hh (by omega)) (by omega) (Nat.le_of_ble_eq_true rfl) ?_
        refine k_topi (a) hs.1 ?_
        refine k_if_ne 78 eX9_given_71 (by decide) (fun c_71 => ?_) (fun c_71 => ?_)
        · refine k_iconst (v := nI 0) eX9_given_78 (by decide) ?_
          refine k_istore_n (L2 := [_, _, _, _, _]) eX9_given_79 (Nat.le_of_ble_eq_true rfl) rfl ?_
          refine k_goto 90 eX9_given_80 (by decide) ?_
          refine k_iincN (g := 1) (a := j) (L2 := [_, _, _, _, _]) eX9_given_90 (Nat.le_of_ble_eq_true rfl) rfl rfl ?_
          refine k_goto 9 eX9_given_93 (by decide) ?_
          refine k_forget 4 (L2 := [_, _, _, _, _]) rfl ?_
          rw [gv, if_neg c_29, if_neg c_52, if_pos c_64, show decide (hdI [a] = 0) = false from decide_eq_false c_71]
          exact ih (j + 1) false [] 0 _ (by omega) trivial rfl (by decide) hwf.2 (fun _ => rfl) (fun _ => rfl) ((f0.si (by decide) _))
        refine k_iconst (v := nI 1) eX9_given_74 (by decide) ?_
        refine k_goto 79 eX9_given_75 (by decide) ?_
        refine k_istore_n (L2 := [_, _, _, _, _]) eX9_given_79 (Nat.le_of_ble_eq_true rfl) rfl ?_
        refine k_goto 90 eX9_given_80 (by decide) ?_
        refine k_iincN (g := 1) (a := j) (L2 := [_, _, _, _, _]) eX9_given_90 (Nat.le_of_ble_eq_true rfl) rfl rfl ?_
        refine k_goto 9 eX9_given_93 (by decide) ?_
        refine k_forget 4 (L2 := [_, _, _, _, _]) rfl ?_
        rw [gv, if_neg c_29, if_neg c_52, if_pos c_64, show decide (hdI [a] = 0) = true from decide_eq_true c_71]
        exact ih (j + 1) true [] 0 _ (by omega) trivial rfl (by decide) hwf.2 (fun _ => rfl) (fun _ => rfl) ((f0.si (by decide) _))
      have hd1 := hnsk (Bool.not_eq_true _ |>.mp c_29)
      rw [wfc, if_pos (Or.inl c_52)] at hwf
      obtain ⟨a, r, rfl⟩ := len1 (st := st) (by omega)
      have hr0 : r = [] := len0 (by simp only [List.length_cons] at hd1; omega)
      subst hr0
      refine k_aload_n eX9_given_55 rfl ?_
      refine cV1 (M' := MX9_pop) eX9_given_56 mX9_37 wX9_pop vX9_pop ⟨_, _, _, rfl, rfl, rfl⟩ rfl (pX9_pop45 (S := S) (n := 0) hh (by omega)) (by omega) (Nat.le_of_ble_eq_true rfl) ?_
      refine k_topi (a) hs.1 ?_
      refine k_ireturn eX9_given_59 rfl rfl ?_
      rw [gv, if_neg c_29, if_pos c_52]
      exact ⟨rfl, _, rfl, (f0.si (by decide) _)⟩
    refine k_iload eX9_given_32 rfl ?_
    refine k_bipush (v := nI 59) eX9_given_34 (by decide) ?_
    refine k_icmp_eq 43 eX9_given_36 (by decide) (fun c_36 => ?_) (fun c_36 => ?_)
    · refine k_iconst (v := nI 0) eX9_given_43 (by decide) ?_
      refine k_istore_n (L2 := [_, _, _, _, _]) eX9_given_44 (Nat.le_of_ble_eq_true rfl) rfl ?_
      refine k_goto 90 eX9_given_45 (by decide) ?_
      refine k_iincN (g := 1) (a := j) (L2 := [_, _, _, _, _]) eX9_given_90 (Nat.le_of_ble_eq_true rfl) rfl rfl ?_
      refine k_goto 9 eX9_given_93 (by decide) ?_
      refine k_forget 4 (L2 := [_, _, _, _, _]) rfl ?_
      rw [gv, if_pos c_29, show decide (¬ -x = nI 59) = false from decide_eq_false (not_not_intro c_36)]
      have hst := hsk c_29
      subst hst
      rw [wfc, if_pos (Or.inl c_36)] at hwf
      exact ih (j + 1) false [] 0 S (by omega) hs hh hl hwf.2 (fun _ => rfl) (fun _ => rfl) f0
    refine k_iconst (v := nI 1) eX9_given_39 (by decide) ?_
    refine k_goto 44 eX9_given_40 (by decide) ?_
    refine k_istore_n (L2 := [_, _, _, _, _]) eX9_given_44 (Nat.le_of_ble_eq_true rfl) rfl ?_
    refine k_goto 90 eX9_given_45 (by decide) ?_
    refine k_iincN (g := 1) (a := j) (L2 := [_, _, _, _, _]) eX9_given_90 (Nat.le_of_ble_eq_true rfl) rfl rfl ?_
    refine k_goto 9 eX9_given_93 (by decide) ?_
    refine k_forget 4 (L2 := [_, _, _, _, _]) rfl ?_
    rw [gv, if_pos c_29, show decide (¬ -x = nI 59) = true from decide_eq_true c_36]
    have hst := hsk c_29
    subst hst
    obtain ⟨d2, hd2⟩ := wfc_tl hwf
    exact ih (j + 1) true [] d2 S (by omega) hs hh hl hd2 (fun _ => rfl) (fun q => by cases q) f0
set_option maxHeartbeats 400000 in
theorem pX9_given45 {S : k_S} {n0 : Nat} (hn : S.1 2251 = nI n0) (hn0 : n0 ≤ 240) (hwf : wfc (cds (S.2.1 46) 0 n0) 0) : Sp 3 0 0 MX9_given [.ref 45, .ref 48] (hp S) (Rx (some (.int (gv (S.2.1 48) (cds (S.2.1 46) 0 n0) false []))) (fun S' => Frm [2253] [47] [] S S')) := by
  refine Sp_of (by decide +kernel) (Nat.le_of_ble_eq_true rfl) ?_
  show AW none MX9_given 3 0 0 0 [.ref 45, .ref 48, .null, .null, .null] [] (hp S) _
  refine k_aload_n eX9_given_0 rfl ?_
  refine k_iconst (v := nI 0) eX9_given_1 (by decide) ?_
  refine PX9_34_45 eX9_given_2 rfl ?_
  refine k_iconst (v := nI 0) eX9_given_5 (by decide) ?_
  refine k_istore_n (L2 := [_, _, _, _, _]) eX9_given_6 (Nat.le_of_ble_eq_true rfl) rfl ?_
  refine k_iconst (v := nI 0) eX9_given_7 (by decide) ?_
  refine k_istore_n (L2 := [_, _, _, _, _]) eX9_given_8 (Nat.le_of_ble_eq_true rfl) rfl ?_
  refine AW.mono (lX9_given45 (by decide) (S0 := S) hn hn0 n0 0 false [] 0 (si S 2253 (nI 0)) (by omega) trivial rfl (by decide) hwf (fun _ => rfl) (fun _ => rfl) (((Frm.rf S).si (by decide) _))) (fun _ _ q => q)
