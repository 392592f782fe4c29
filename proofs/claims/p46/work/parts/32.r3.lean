/-- the reader: code, what waits, digits, whether a part is wanted, whether it was asked -/
abbrev cS : Type := List Int32 × List Int32 × Nat × Bool × Bool
def RSt (S : k_S) (st : cS) : Prop := RS S st.1 st.2.1 st.2.2.1 st.2.2.2.1 st.2.2.2.2
/-- one byte where a part is wanted -/
def bgP (c W : List Int32) (dg : Nat) (as : Bool) (b : Int32) : Option cS :=
  if pIn b (nI 48) (nI 57) then some ((b - nI 48) :: c, W, 1, false, as)
  else if 0 ≤ nam b then some ((-b) :: c, W, 0, false, as)
  else if b = nI 40 ∨ b = nI 33 ∨ b = nI 45 then (if oc W < 6 then some (c, (if b = nI 45 then nI 126 else b) :: W, dg, true, as) else none)
  else none
/-- one byte behind a part -/
def goP (c W : List Int32) (dg : Nat) (as : Bool) (b : Int32) : Option cS :=
  if pIn b (nI 48) (nI 57) then (if dg < 1 ∨ 3 < dg then none else match c with
    | [] => none
    | x :: c' => some ((x * nI 10 + (b - nI 48)) :: c', W, dg + 1, false, as))
  else if b = nI 41 then (match (ew 1 c W).2 with
    | [] => none
    | s :: W2 => if s = nI 40 then some ((ew 1 c W).1, W2, 0, false, as) else none)
  else if b = nI 59 then (if (ew 1 c W).2 = [] then some ((-59) :: (ew 1 c W).1, [], 0, true, false) else none)
  else if b = nI 63 then (if as = false ∧ (ew 1 c W).2 = [] then some ((-63) :: (ew 1 c W).1, [], 0, true, true) else none)
  else if lev b < 1 ∨ 5 < lev b then none
  else if lev b = 3 then (if lev (hdI (ew 4 c W).2) = 3 then none else some ((ew 3 (ew 4 c W).1 (ew 4 c W).2).1, b :: (ew 3 (ew 4 c W).1 (ew 4 c W).2).2, 0, true, as))
  else some ((ew (lev b) c W).1, b :: (ew (lev b) c W).2, 0, true, as)
theorem isS {f : Option cS} {st : cS} (h : f = some st) : some (Value.int (nI 1)) = some (Value.int (b2i (f.isSome = true))) := by rw [h]; rfl
theorem isN {f : Option cS} (h : f = none) : some (Value.int (nI 0)) = some (Value.int (b2i (f.isSome = true))) := by rw [h]; rfl
theorem oc_push {s : Int32} (W : List Int32) (h : lev s = 6 ∨ s = nI 40) : oc (s :: W) = oc W + 1 := by rw [oc, if_pos h]
theorem oc_same {s : Int32} (W : List Int32) (h : ¬ (lev s = 6 ∨ s = nI 40)) : oc (s :: W) = oc W := by rw [oc, if_neg h]; rfl
set_option maxHeartbeats 400000 in
theorem pX6_beginsPart {S : k_S} {c W : List Int32} {dg : Nat} {as : Bool} (hR : RS S c W dg true as) (hl : c.length + W.length < 120) (b : Int32) : Sp 2 0 0 MX6_beginsPart [.ref 1, .int (b)] (hp S) (Rx (some (.int (b2i ((bgP c W dg as b).isSome = true)))) (fun S' => FrR S S' ∧ ∀ st, bgP c W dg as b = some st → RSt S' st)) := by
  refine Sp_of (by decide +kernel) (Nat.le_of_ble_eq_true rfl) ?_
  show AW none MX6_beginsPart 2 0 0 0 [.ref 1, .int (b)] [] (hp S) _
  obtain ⟨h51, h2, h53, h3, h54, h55, h56, h57⟩ := id hR
  have hol := oc_le W
  refine k_iload_n eX6_beginsPart_0 rfl ?_
  refine cS1 (M' := MX6_isDigit) eX6_beginsPart_1 mX6_53 wX6_isDigit sX6_isDigit rfl (pX6_isDigit (b)) (by decide) (Nat.le_of_ble_eq_true rfl) ?_
  refine k_ifb_ne 14 eX6_beginsPart_4 (by decide) (fun c_4 => ?_) (fun c_4 => ?_)
  · refine k_aload_n eX6_beginsPart_14 rfl ?_
    refine k_iload_n eX6_beginsPart_15 rfl ?_
    refine cS1 (M' := MX6_isDigit) eX6_beginsPart_16 mX6_53 wX6_isDigit sX6_isDigit rfl (pX6_isDigit (b)) (by decide) (Nat.le_of_ble_eq_true rfl) ?_
    refine k_ifb_eq 26 eX6_beginsPart_19 (by decide) (fun c_19 => ?_) (fun c_19 => ?_)
    · refine k_iconst (v := nI 0) eX6_beginsPart_26 (by decide) ?_
      refine PX6_28 eX6_beginsPart_27 rfl ?_
      refine k_aload_n eX6_beginsPart_30 rfl ?_
      refine k_iload_n eX6_beginsPart_31 rfl ?_
      refine cS1 (M' := MX6_isDigit) eX6_beginsPart_32 mX6_53 wX6_isDigit sX6_isDigit rfl (pX6_isDigit (b)) (by decide) (Nat.le_of_ble_eq_true rfl) ?_
      refine k_ifb_eq 45 eX6_beginsPart_35 (by decide) (fun c_35 => ?_) (fun c_35 => ?_)
      · refine k_iload_n eX6_beginsPart_45 rfl ?_
        refine k_ineg eX6_beginsPart_46 ?_
        refine cV0 (M' := MX6_emit) eX6_beginsPart_47 mX6_62 wX6_emit vX6_emit ⟨_, _, _, rfl, rfl, rfl⟩ rfl (pX6_emit (S := (si S 55 (nI 0))) (n := c.length) h51 (by omega) ((-(b)))) (by decide) (Nat.le_of_ble_eq_true rfl) ?_
        refine k_aload_n eX6_beginsPart_50 rfl ?_
        refine k_iconst (v := nI 0) eX6_beginsPart_51 (by decide) ?_
        refine PX6_31 eX6_beginsPart_52 rfl (Or.inl rfl) ?_
        refine k_iconst (v := nI 1) eX6_beginsPart_55 (by decide) ?_
        refine k_ireturn eX6_beginsPart_56 rfl rfl ?_
        first
        | exact absurd c_4 c_19
        | exact absurd c_19 c_4
        | exact absurd c_35 c_19
        | exact absurd c_19 c_35
        | (have e : bgP c W dg as b = some ((b - nI 48) :: c, W, 1, false, as) := by rw [bgP, if_pos c_4]
           exact ⟨isS e, _, rfl, (((((FrR.rf S).si (by decide) _).sa (by decide) _).si (by decide) _).si (by decide) _), fun st q => by rw [e] at q; cases q; exact ⟨rfl, stk_push h2, h53, h3, h54, rfl, rfl, h57⟩⟩)
        | (have e : bgP c W dg as b = some ((-b) :: c, W, 0, false, as) := by rw [bgP, if_neg c_4, if_pos (Int32.not_lt.mp c_11)]
           exact ⟨isS e, _, rfl, (((((FrR.rf S).si (by decide) _).sa (by decide) _).si (by decide) _).si (by decide) _), fun st q => by rw [e] at q; cases q; exact ⟨rfl, stk_push h2, h53, h3, h54, rfl, rfl, h57⟩⟩)
      refine k_iload_n eX6_beginsPart_38 rfl ?_
      refine k_bipush (v := nI 48) eX6_beginsPart_39 (by decide) ?_
      refine k_isub eX6_beginsPart_41 ?_
      refine k_goto 47 eX6_beginsPart_42 (by decide) ?_
      refine cV0 (M' := MX6_emit) eX6_beginsPart_47 mX6_62 wX6_emit vX6_emit ⟨_, _, _, rfl, rfl, rfl⟩ rfl (pX6_emit (S := (si S 55 (nI 0))) (n := c.length) h51 (by omega) ((b - nI 48))) (by decide) (Nat.le_of_ble_eq_true rfl) ?_
      refine k_aload_n eX6_beginsPart_50 rfl ?_
      refine k_iconst (v := nI 0) eX6_beginsPart_51 (by decide) ?_
      refine PX6_31 eX6_beginsPart_52 rfl (Or.inl rfl) ?_
      refine k_iconst (v := nI 1) eX6_beginsPart_55 (by decide) ?_
      refine k_ireturn eX6_beginsPart_56 rfl rfl ?_
      first
      | exact absurd c_4 c_19
      | exact absurd c_19 c_4
      | exact absurd c_35 c_19
      | exact absurd c_19 c_35
      | (have e : bgP c W dg as b = some ((b - nI 48) :: c, W, 1, false, as) := by rw [bgP, if_pos c_4]
         exact ⟨isS e, _, rfl, (((((FrR.rf S).si (by decide) _).sa (by decide) _).si (by decide) _).si (by decide) _), fun st q => by rw [e] at q; cases q; exact ⟨rfl, stk_push h2, h53, h3, h54, rfl, rfl, h57⟩⟩)
      | (have e : bgP c W dg as b = some ((-b) :: c, W, 0, false, as) := by rw [bgP, if_neg c_4, if_pos (Int32.not_lt.mp c_11)]
         exact ⟨isS e, _, rfl, (((((FrR.rf S).si (by decide) _).sa (by decide) _).si (by decide) _).si (by decide) _), fun st q => by rw [e] at q; cases q; exact ⟨rfl, stk_push h2, h53, h3, h54, rfl, rfl, h57⟩⟩)
    refine k_iconst (v := nI 1) eX6_beginsPart_22 (by decide) ?_
    refine k_goto 27 eX6_beginsPart_23 (by decide) ?_
    refine PX6_28 eX6_beginsPart_27 rfl ?_
    refine k_aload_n eX6_beginsPart_30 rfl ?_
    refine k_iload_n eX6_beginsPart_31 rfl ?_
    refine cS1 (M' := MX6_isDigit) eX6_beginsPart_32 mX6_53 wX6_isDigit sX6_isDigit rfl (pX6_isDigit (b)) (by decide) (Nat.le_of_ble_eq_true rfl) ?_
    refine k_ifb_eq 45 eX6_beginsPart_35 (by decide) (fun c_35 => ?_) (fun c_35 => ?_)
    · refine k_iload_n eX6_beginsPart_45 rfl ?_
      refine k_ineg eX6_beginsPart_46 ?_
      refine cV0 (M' := MX6_emit) eX6_beginsPart_47 mX6_62 wX6_emit vX6_emit ⟨_, _, _, rfl, rfl, rfl⟩ rfl (pX6_emit (S := (si S 55 (nI 1))) (n := c.length) h51 (by omega) ((-(b)))) (by decide) (Nat.le_of_ble_eq_true rfl) ?_
      refine k_aload_n eX6_beginsPart_50 rfl ?_
      refine k_iconst (v := nI 0) eX6_beginsPart_51 (by decide) ?_
      refine PX6_31 eX6_beginsPart_52 rfl (Or.inl rfl) ?_
      refine k_iconst (v := nI 1) eX6_beginsPart_55 (by decide) ?_
      refine k_ireturn eX6_beginsPart_56 rfl rfl ?_
      first
      | exact absurd c_4 c_19
      | exact absurd c_19 c_4
      | exact absurd c_35 c_19
      | exact absurd c_19 c_35
      | (have e : bgP c W dg as b = some ((b - nI 48) :: c, W, 1, false, as) := by rw [bgP, if_pos c_4]
         exact ⟨isS e, _, rfl, (((((FrR.rf S).si (by decide) _).sa (by decide) _).si (by decide) _).si (by decide) _), fun st q => by rw [e] at q; cases q; exact ⟨rfl, stk_push h2, h53, h3, h54, rfl, rfl, h57⟩⟩)
      | (have e : bgP c W dg as b = some ((-b) :: c, W, 0, false, as) := by rw [bgP, if_neg c_4, if_pos (Int32.not_lt.mp c_11)]
         exact ⟨isS e, _, rfl, (((((FrR.rf S).si (by decide) _).sa (by decide) _).si (by decide) _).si (by decide) _), fun st q => by rw [e] at q; cases q; exact ⟨rfl, stk_push h2, h53, h3, h54, rfl, rfl, h57⟩⟩)
    refine k_iload_n eX6_beginsPart_38 rfl ?_
    refine k_bipush (v := nI 48) eX6_beginsPart_39 (by decide) ?_
    refine k_isub eX6_beginsPart_41 ?_
    refine k_goto 47 eX6_beginsPart_42 (by decide) ?_
    refine cV0 (M' := MX6_emit) eX6_beginsPart_47 mX6_62 wX6_emit vX6_emit ⟨_, _, _, rfl, rfl, rfl⟩ rfl (pX6_emit (S := (si S 55 (nI 1))) (n := c.length) h51 (by omega) ((b - nI 48))) (by decide) (Nat.le_of_ble_eq_true rfl) ?_
    refine k_aload_n eX6_beginsPart_50 rfl ?_
    refine k_iconst (v := nI 0) eX6_beginsPart_51 (by decide) ?_
    refine PX6_31 eX6_beginsPart_52 rfl (Or.inl rfl) ?_
    refine k_iconst (v := nI 1) eX6_beginsPart_55 (by decide) ?_
    refine k_ireturn eX6_beginsPart_56 rfl rfl ?_
    first
    | exact absurd c_4 c_19
    | exact absurd c_19 c_4
    | exact absurd c_35 c_19
    | exact absurd c_19 c_35
    | (have e : bgP c W dg as b = some ((b - nI 48) :: c, W, 1, false, as) := by rw [bgP, if_pos c_4]
       exact ⟨isS e, _, rfl, (((((FrR.rf S).si (by decide) _).sa (by decide) _).si (by decide) _).si (by decide) _), fun st q => by rw [e] at q; cases q; exact ⟨rfl, stk_push h2, h53, h3, h54, rfl, rfl, h57⟩⟩)
    | (have e : bgP c W dg as b = some ((-b) :: c, W, 0, false, as) := by rw [bgP, if_neg c_4, if_pos (Int32.not_lt.mp c_11)]
       exact ⟨isS e, _, rfl, (((((FrR.rf S).si (by decide) _).sa (by decide) _).si (by decide) _).si (by decide) _), fun st q => by rw [e] at q; cases q; exact ⟨rfl, stk_push h2, h53, h3, h54, rfl, rfl, h57⟩⟩)
  refine k_iload_n eX6_beginsPart_7 rfl ?_
  refine cS1 (M' := MX9_nameOf) eX6_beginsPart_8 mX6_56 wX9_nameOf sX9_nameOf rfl (pX9_nameOf (b)) (by decide) (Nat.le_of_ble_eq_true rfl) ?_
  refine k_if_lt 57 eX6_beginsPart_11 (by decide) (fun c_11 => ?_) (fun c_11 => ?_)
  · refine k_iload_n eX6_beginsPart_57 rfl ?_
    refine k_bipush (v := nI 40) eX6_beginsPart_58 (by decide) ?_
    refine k_icmp_eq 77 eX6_beginsPart_60 (by decide) (fun c_60 => ?_) (fun c_60 => ?_)
    · refine k_aload_n eX6_beginsPart_77 rfl ?_
      refine GX6_25 eX6_beginsPart_78 rfl ?_
      refine k_topi (nI (oc W)) h54 ?_
      refine k_bipush (v := nI 6) eX6_beginsPart_81 (by decide) ?_
      refine k_icmp_ltN 88 eX6_beginsPart_83 (by decide) (by omega) (by omega) (fun c_83 => ?_) (fun c_83 => ?_)
      · refine k_aload_n eX6_beginsPart_88 rfl ?_
        refine k_dup eX6_beginsPart_89 rfl ?_
        refine GX6_25 eX6_beginsPart_90 rfl ?_
        refine k_topi (nI (oc W)) h54 ?_
        refine k_iconst (v := nI 1) eX6_beginsPart_93 (by decide) ?_
        refine k_iaddN eX6_beginsPart_94 ?_
        refine PX6_25 eX6_beginsPart_95 rfl ?_
        refine k_aload_n eX6_beginsPart_98 rfl ?_
        refine k_iload_n eX6_beginsPart_99 rfl ?_
        refine k_bipush (v := nI 45) eX6_beginsPart_100 (by decide) ?_
        refine k_icmp_ne 110 eX6_beginsPart_102 (by decide) (fun c_102 => ?_) (fun c_102 => ?_)
        · refine k_iload_n eX6_beginsPart_110 rfl ?_
          refine cV0 (M' := MX6_await) eX6_beginsPart_111 mX6_66 wX6_await vX6_await ⟨_, _, _, rfl, rfl, rfl⟩ rfl (pX6_await (S := (si S 54 (nI ((oc W) + 1)))) (n := W.length) h53 (by omega) (b)) (by decide) (Nat.le_of_ble_eq_true rfl) ?_
          refine k_iconst (v := nI 1) eX6_beginsPart_114 (by decide) ?_
          refine k_ireturn eX6_beginsPart_115 rfl rfl ?_
          have hs : (if b = nI 45 then nI 126 else b) = b := by first | exact if_pos c_102 | exact if_neg c_102
          have e : bgP c W dg as b = some (c, b :: W, dg, true, as) := by rw [bgP, if_neg c_4, if_neg (Int32.not_le.mpr c_11), if_pos (by first | exact Or.inl c_60 | exact Or.inr (Or.inl c_66) | exact Or.inr (Or.inr c_72)), if_pos (by omega), hs]
          have hoc : oc (b :: W) = oc W + 1 := oc_push W (by first | exact Or.inl (by decide) | exact Or.inr c_60 | (rw [c_66]; exact Or.inl (by decide)) | exact absurd c_72 c_102)
          exact ⟨isS e, _, rfl, ((((FrR.rf S).si (by decide) _).sa (by decide) _).si (by decide) _), fun st q => by rw [e] at q; cases q; exact ⟨h51, h2, rfl, stk_push h3, (by rw [hoc]; rfl), h55, h56, h57⟩⟩
        refine k_bipush (v := nI 126) eX6_beginsPart_105 (by decide) ?_
        refine k_goto 111 eX6_beginsPart_107 (by decide) ?_
        refine cV0 (M' := MX6_await) eX6_beginsPart_111 mX6_66 wX6_await vX6_await ⟨_, _, _, rfl, rfl, rfl⟩ rfl (pX6_await (S := (si S 54 (nI ((oc W) + 1)))) (n := W.length) h53 (by omega) (nI 126)) (by decide) (Nat.le_of_ble_eq_true rfl) ?_
        refine k_iconst (v := nI 1) eX6_beginsPart_114 (by decide) ?_
        refine k_ireturn eX6_beginsPart_115 rfl rfl ?_
        have hs : (if b = nI 45 then nI 126 else b) = nI 126 := by first | exact if_pos c_102 | exact if_neg c_102
        have e : bgP c W dg as b = some (c, nI 126 :: W, dg, true, as) := by rw [bgP, if_neg c_4, if_neg (Int32.not_le.mpr c_11), if_pos (by first | exact Or.inl c_60 | exact Or.inr (Or.inl c_66) | exact Or.inr (Or.inr c_72)), if_pos (by omega), hs]
        have hoc : oc (nI 126 :: W) = oc W + 1 := oc_push W (by first | exact Or.inl (by decide) | exact Or.inr c_60 | (rw [c_66]; exact Or.inl (by decide)) | exact absurd c_72 c_102)
        exact ⟨isS e, _, rfl, ((((FrR.rf S).si (by decide) _).sa (by decide) _).si (by decide) _), fun st q => by rw [e] at q; cases q; exact ⟨h51, h2, rfl, stk_push h3, (by rw [hoc]; rfl), h55, h56, h57⟩⟩
      refine k_iconst (v := nI 0) eX6_beginsPart_86 (by decide) ?_
      refine k_ireturn eX6_beginsPart_87 rfl rfl ?_
      have e : bgP c W dg as b = none := by rw [bgP, if_neg c_4, if_neg (Int32.not_le.mpr c_11), if_pos (by first | exact Or.inl c_60 | exact Or.inr (Or.inl c_66) | exact Or.inr (Or.inr c_72)), if_neg (by omega)]
      exact ⟨isN e, _, rfl, (FrR.rf S), fun st q => by rw [e] at q; cases q⟩
    refine k_iload_n eX6_beginsPart_63 rfl ?_
    refine k_bipush (v := nI 33) eX6_beginsPart_64 (by decide) ?_
    refine k_icmp_eq 77 eX6_beginsPart_66 (by decide) (fun c_66 => ?_) (fun c_66 => ?_)
    · refine k_aload_n eX6_beginsPart_77 rfl ?_
      refine GX6_25 eX6_beginsPart_78 rfl ?_
      refine k_topi (nI (oc W)) h54 ?_
      refine k_bipush (v := nI 6) eX6_beginsPart_81 (by decide) ?_
      refine k_icmp_ltN 88 eX6_beginsPart_83 (by decide) (by omega) (by omega) (fun c_83 => ?_) (fun c_83 => ?_)
      · refine k_aload_n eX6_beginsPart_88 rfl ?_
        refine k_dup eX6_beginsPart_89 rfl ?_
        refine GX6_25 eX6_beginsPart_90 rfl ?_
        refine k_topi (nI (oc W)) h54 ?_
        refine k_iconst (v := nI 1) eX6_beginsPart_93 (by decide) ?_
        refine k_iaddN eX6_beginsPart_94 ?_
        refine PX6_25 eX6_beginsPart_95 rfl ?_
        refine k_aload_n eX6_beginsPart_98 rfl ?_
        refine k_iload_n eX6_beginsPart_99 rfl ?_
        refine k_bipush (v := nI 45) eX6_beginsPart_100 (by decide) ?_
        refine k_icmp_ne 110 eX6_beginsPart_102 (by decide) (fun c_102 => ?_) (fun c_102 => ?_)
        · refine k_iload_n eX6_beginsPart_110 rfl ?_
          refine cV0 (M' := MX6_await) eX6_beginsPart_111 mX6_66 wX6_await vX6_await ⟨_, _, _, rfl, rfl, rfl⟩ rfl (pX6_await (S := (si S 54 (nI ((oc W) + 1)))) (n := W.length) h53 (by omega) (b)) (by decide) (Nat.le_of_ble_eq_true rfl) ?_
          refine k_iconst (v := nI 1) eX6_beginsPart_114 (by decide) ?_
          refine k_ireturn eX6_beginsPart_115 rfl rfl ?_
          have hs : (if b = nI 45 then nI 126 else b) = b := by first | exact if_pos c_102 | exact if_neg c_102
          have e : bgP c W dg as b = some (c, b :: W, dg, true, as) := by rw [bgP, if_neg c_4, if_neg (Int32.not_le.mpr c_11), if_pos (by first | exact Or.inl c_60 | exact Or.inr (Or.inl c_66) | exact Or.inr (Or.inr c_72)), if_pos (by omega), hs]
          have hoc : oc (b :: W) = oc W + 1 := oc_push W (by first | exact Or.inl (by decide) | exact Or.inr c_60 | (rw [c_66]; exact Or.inl (by decide)) | exact absurd c_72 c_102)
          exact ⟨isS e, _, rfl, ((((FrR.rf S).si (by decide) _).sa (by decide) _).si (by decide) _), fun st q => by rw [e] at q; cases q; exact ⟨h51, h2, rfl, stk_push h3, (by rw [hoc]; rfl), h55, h56, h57⟩⟩
        refine k_bipush (v := nI 126) eX6_beginsPart_105 (by decide) ?_
        refine k_goto 111 eX6_beginsPart_107 (by decide) ?_
        refine cV0 (M' := MX6_await) eX6_beginsPart_111 mX6_66 wX6_await vX6_await ⟨_, _, _, rfl, rfl, rfl⟩ rfl (pX6_await (S := (si S 54 (nI ((oc W) + 1)))) (n := W.length) h53 (by omega) (nI 126)) (by decide) (Nat.le_of_ble_eq_true rfl) ?_
        refine k_iconst (v := nI 1) eX6_beginsPart_114 (by decide) ?_
        refine k_ireturn eX6_beginsPart_115 rfl rfl ?_
        have hs : (if b = nI 45 then nI 126 else b) = nI 126 := by first | exact if_pos c_102 | exact if_neg c_102
        have e : bgP c W dg as b = some (c, nI 126 :: W, dg, true, as) := by rw [bgP, if_neg c_4, if_neg (Int32.not_le.mpr c_11), if_pos (by first | exact Or.inl c_60 | exact Or.inr (Or.inl c_66) | exact Or.inr (Or.inr c_72)), if_pos (by omega), hs]
        have hoc : oc (nI 126 :: W) = oc W + 1 := oc_push W (by first | exact Or.inl (by decide) | exact Or.inr c_60 | (rw [c_66]; exact Or.inl (by decide)) | exact absurd c_72 c_102)
        exact ⟨isS e, _, rfl, ((((FrR.rf S).si (by decide) _).sa (by decide) _).si (by decide) _), fun st q => by rw [e] at q; cases q; exact ⟨h51, h2, rfl, stk_push h3, (by rw [hoc]; rfl), h55, h56, h57⟩⟩
      refine k_iconst (v := nI 0) eX6_beginsPart_86 (by decide) ?_
      refine k_ireturn eX6_beginsPart_87 rfl rfl ?_
      have e : bgP c W dg as b = none := by rw [bgP, if_neg c_4, if_neg (Int32.not_le.mpr c_11), if_pos (by first | exact Or.inl c_60 | exact Or.inr (Or.inl c_66) | exact Or.inr (Or.inr c_72)), if_neg (by omega)]
      exact ⟨isN e, _, rfl, (FrR.rf S), fun st q => by rw [e] at q; cases q⟩
    refine k_iload_n eX6_beginsPart_69 rfl ?_
    refine k_bipush (v := nI 45) eX6_beginsPart_70 (by decide) ?_
    refine k_icmp_eq 77 eX6_beginsPart_72 (by decide) (fun c_72 => ?_) (fun c_72 => ?_)
    · refine k_aload_n eX6_beginsPart_77 rfl ?_
      refine GX6_25 eX6_beginsPart_78 rfl ?_
      refine k_topi (nI (oc W)) h54 ?_
      refine k_bipush (v := nI 6) eX6_beginsPart_81 (by decide) ?_
      refine k_icmp_ltN 88 eX6_beginsPart_83 (by decide) (by omega) (by omega) (fun c_83 => ?_) (fun c_83 => ?_)
      · refine k_aload_n eX6_beginsPart_88 rfl ?_
        refine k_dup eX6_beginsPart_89 rfl ?_
        refine GX6_25 eX6_beginsPart_90 rfl ?_
        refine k_topi (nI (oc W)) h54 ?_
        refine k_iconst (v := nI 1) eX6_beginsPart_93 (by decide) ?_
        refine k_iaddN eX6_beginsPart_94 ?_
        refine PX6_25 eX6_beginsPart_95 rfl ?_
        refine k_aload_n eX6_beginsPart_98 rfl ?_
        refine k_iload_n eX6_beginsPart_99 rfl ?_
        refine k_bipush (v := nI 45) eX6_beginsPart_100 (by decide) ?_
        refine k_icmp_ne 110 eX6_beginsPart_102 (by decide) (fun c_102 => ?_) (fun c_102 => ?_)
        · refine k_iload_n eX6_beginsPart_110 rfl ?_
          refine cV0 (M' := MX6_await) eX6_beginsPart_111 mX6_66 wX6_await vX6_await ⟨_, _, _, rfl, rfl, rfl⟩ rfl (pX6_await (S := (si S 54 (nI ((oc W) + 1)))) (n := W.length) h53 (by omega) (b)) (by decide) (Nat.le_of_ble_eq_true rfl) ?_
          refine k_iconst (v := nI 1) eX6_beginsPart_114 (by decide) ?_
          refine k_ireturn eX6_beginsPart_115 rfl rfl ?_
          have hs : (if b = nI 45 then nI 126 else b) = b := by first | exact if_pos c_102 | exact if_neg c_102
          have e : bgP c W dg as b = some (c, b :: W, dg, true, as) := by rw [bgP, if_neg c_4, if_neg (Int32.not_le.mpr c_11), if_pos (by first | exact Or.inl c_60 | exact Or.inr (Or.inl c_66) | exact Or.inr (Or.inr c_72)), if_pos (by omega), hs]
          have hoc : oc (b :: W) = oc W + 1 := oc_push W (by first | exact Or.inl (by decide) | exact Or.inr c_60 | (rw [c_66]; exact Or.inl (by decide)) | exact absurd c_72 c_102)
          exact ⟨isS e, _, rfl, ((((FrR.rf S).si (by decide) _).sa (by decide) _).si (by decide) _), fun st q => by rw [e] at q; cases q; exact ⟨h51, h2, rfl, stk_push h3, (by rw [hoc]; rfl), h55, h56, h57⟩⟩
        refine k_bipush (v := nI 126) eX6_beginsPart_105 (by decide) ?_
        refine k_goto 111 eX6_beginsPart_107 (by decide) ?_
        refine cV0 (M' := MX6_await) eX6_beginsPart_111 mX6_66 wX6_await vX6_await ⟨_, _, _, rfl, rfl, rfl⟩ rfl (pX6_await (S := (si S 54 (nI ((oc W) + 1)))) (n := W.length) h53 (by omega) (nI 126)) (by decide) (Nat.le_of_ble_eq_true rfl) ?_
        refine k_iconst (v := nI 1) eX6_beginsPart_114 (by decide) ?_
        refine k_ireturn eX6_beginsPart_115 rfl rfl ?_
        have hs : (if b = nI 45 then nI 126 else b) = nI 126 := by first | exact if_pos c_102 | exact if_neg c_102
        have e : bgP c W dg as b = some (c, nI 126 :: W, dg, true, as) := by rw [bgP, if_neg c_4, if_neg (Int32.not_le.mpr c_11), if_pos (by first | exact Or.inl c_60 | exact Or.inr (Or.inl c_66) | exact Or.inr (Or.inr c_72)), if_pos (by omega), hs]
        have hoc : oc (nI 126 :: W) = oc W + 1 := oc_push W (by first | exact Or.inl (by decide) | exact Or.inr c_60 | (rw [c_66]; exact Or.inl (by decide)) | exact absurd c_72 c_102)
        exact ⟨isS e, _, rfl, ((((FrR.rf S).si (by decide) _).sa (by decide) _).si (by decide) _), fun st q => by rw [e] at q; cases q; exact ⟨h51, h2, rfl, stk_push h3, (by rw [hoc]; rfl), h55, h56, h57⟩⟩
      refine k_iconst (v := nI 0) eX6_beginsPart_86 (by decide) ?_
      refine k_ireturn eX6_beginsPart_87 rfl rfl ?_
      have e : bgP c W dg as b = none := by rw [bgP, if_neg c_4, if_neg (Int32.not_le.mpr c_11), if_pos (by first | exact Or.inl c_60 | exact Or.inr (Or.inl c_66) | exact Or.inr (Or.inr c_72)), if_neg (by omega)]
      exact ⟨isN e, _, rfl, (FrR.rf S), fun st q => by rw [e] at q; cases q⟩
    refine k_iconst (v := nI 0) eX6_beginsPart_75 (by decide) ?_
    refine k_ireturn eX6_beginsPart_76 rfl rfl ?_
    have e : bgP c W dg as b = none := by rw [bgP, if_neg c_4, if_neg (Int32.not_le.mpr c_11), if_neg (fun q => q.elim c_60 (fun q => q.elim c_66 c_72))]
    exact ⟨isN e, _, rfl, (FrR.rf S), fun st q => by rw [e] at q; cases q⟩
  refine k_aload_n eX6_beginsPart_14 rfl ?_
  refine k_iload_n eX6_beginsPart_15 rfl ?_
  refine cS1 (M' := MX6_isDigit) eX6_beginsPart_16 mX6_53 wX6_isDigit sX6_isDigit rfl (pX6_isDigit (b)) (by decide) (Nat.le_of_ble_eq_true rfl) ?_
  refine k_ifb_eq 26 eX6_beginsPart_19 (by decide) (fun c_19 => ?_) (fun c_19 => ?_)
  · refine k_iconst (v := nI 0) eX6_beginsPart_26 (by decide) ?_
    refine PX6_28 eX6_beginsPart_27 rfl ?_
    refine k_aload_n eX6_beginsPart_30 rfl ?_
    refine k_iload_n eX6_beginsPart_31 rfl ?_
    refine cS1 (M' := MX6_isDigit) eX6_beginsPart_32 mX6_53 wX6_isDigit sX6_isDigit rfl (pX6_isDigit (b)) (by decide) (Nat.le_of_ble_eq_true rfl) ?_
    refine k_ifb_eq 45 eX6_beginsPart_35 (by decide) (fun c_35 => ?_) (fun c_35 => ?_)
    · refine k_iload_n eX6_beginsPart_45 rfl ?_
      refine k_ineg eX6_beginsPart_46 ?_
      refine cV0 (M' := MX6_emit) eX6_beginsPart_47 mX6_62 wX6_emit vX6_emit ⟨_, _, _, rfl, rfl, rfl⟩ rfl (pX6_emit (S := (si S 55 (nI 0))) (n := c.length) h51 (by omega) ((-(b)))) (by decide) (Nat.le_of_ble_eq_true rfl) ?_
      refine k_aload_n eX6_beginsPart_50 rfl ?_
      refine k_iconst (v := nI 0) eX6_beginsPart_51 (by decide) ?_
      refine PX6_31 eX6_beginsPart_52 rfl (Or.inl rfl) ?_
      refine k_iconst (v := nI 1) eX6_beginsPart_55 (by decide) ?_
      refine k_ireturn eX6_beginsPart_56 rfl rfl ?_
      first
      | exact absurd c_4 c_19
      | exact absurd c_19 c_4
      | exact absurd c_35 c_19
      | exact absurd c_19 c_35
      | (have e : bgP c W dg as b = some ((b - nI 48) :: c, W, 1, false, as) := by rw [bgP, if_pos c_4]
         exact ⟨isS e, _, rfl, (((((FrR.rf S).si (by decide) _).sa (by decide) _).si (by decide) _).si (by decide) _), fun st q => by rw [e] at q; cases q; exact ⟨rfl, stk_push h2, h53, h3, h54, rfl, rfl, h57⟩⟩)
      | (have e : bgP c W dg as b = some ((-b) :: c, W, 0, false, as) := by rw [bgP, if_neg c_4, if_pos (Int32.not_lt.mp c_11)]
         exact ⟨isS e, _, rfl, (((((FrR.rf S).si (by decide) _).sa (by decide) _).si (by decide) _).si (by decide) _), fun st q => by rw [e] at q; cases q; exact ⟨rfl, stk_push h2, h53, h3, h54, rfl, rfl, h57⟩⟩)
    refine k_iload_n eX6_beginsPart_38 rfl ?_
    refine k_bipush (v := nI 48) eX6_beginsPart_39 (by decide) ?_
    refine k_isub eX6_beginsPart_41 ?_
    refine k_goto 47 eX6_beginsPart_42 (by decide) ?_
    refine cV0 (M' := MX6_emit) eX6_beginsPart_47 mX6_62 wX6_emit vX6_emit ⟨_, _, _, rfl, rfl, rfl⟩ rfl (pX6_emit (S := (si S 55 (nI 0))) (n := c.length) h51 (by omega) ((b - nI 48))) (by decide) (Nat.le_of_ble_eq_true rfl) ?_
    refine k_aload_n eX6_beginsPart_50 rfl ?_
    refine k_iconst (v := nI 0) eX6_beginsPart_51 (by decide) ?_
    refine PX6_31 eX6_beginsPart_52 rfl (Or.inl rfl) ?_
    refine k_iconst (v := nI 1) eX6_beginsPart_55 (by decide) ?_
    refine k_ireturn eX6_beginsPart_56 rfl rfl ?_
    first
    | exact absurd c_4 c_19
    | exact absurd c_19 c_4
    | exact absurd c_35 c_19
    | exact absurd c_19 c_35
    | (have e : bgP c W dg as b = some ((b - nI 48) :: c, W, 1, false, as) := by rw [bgP, if_pos c_4]
       exact ⟨isS e, _, rfl, (((((FrR.rf S).si (by decide) _).sa (by decide) _).si (by decide) _).si (by decide) _), fun st q => by rw [e] at q; cases q; exact ⟨rfl, stk_push h2, h53, h3, h54, rfl, rfl, h57⟩⟩)
    | (have e : bgP c W dg as b = some ((-b) :: c, W, 0, false, as) := by rw [bgP, if_neg c_4, if_pos (Int32.not_lt.mp c_11)]
       exact ⟨isS e, _, rfl, (((((FrR.rf S).si (by decide) _).sa (by decide) _).si (by decide) _).si (by decide) _), fun st q => by rw [e] at q; cases q; exact ⟨rfl, stk_push h2, h53, h3, h54, rfl, rfl, h57⟩⟩)
  refine k_iconst (v := nI 1) eX6_beginsPart_22 (by decide) ?_
  refine k_goto 27 eX6_beginsPart_23 (by decide) ?_
  refine PX6_28 eX6_beginsPart_27 rfl ?_
  refine k_aload_n eX6_beginsPart_30 rfl ?_
  refine k_iload_n eX6_beginsPart_31 rfl ?_
  refine cS1 (M' := MX6_isDigit) eX6_beginsPart_32 mX6_53 wX6_isDigit sX6_isDigit rfl (pX6_isDigit (b)) (by decide) (Nat.le_of_ble_eq_true rfl) ?_
  refine k_ifb_eq 45 eX6_beginsPart_35 (by decide) (fun c_35 => ?_) (fun c_35 => ?_)
  · refine k_iload_n eX6_beginsPart_45 rfl ?_
    refine k_ineg eX6_beginsPart_46 ?_
    refine cV0 (M' := MX6_emit) eX6_beginsPart_47 mX6_62 wX6_emit vX6_emit ⟨_, _, _, rfl, rfl, rfl⟩ rfl (pX6_emit (S := (si S 55 (nI 1))) (n := c.length) h51 (by omega) ((-(b)))) (by decide) (Nat.le_of_ble_eq_true rfl) ?_
    refine k_aload_n eX6_beginsPart_50 rfl ?_
    refine k_iconst (v := nI 0) eX6_beginsPart_51 (by decide) ?_
    refine PX6_31 eX6_beginsPart_52 rfl (Or.inl rfl) ?_
    refine k_iconst (v := nI 1) eX6_beginsPart_55 (by decide) ?_
    refine k_ireturn eX6_beginsPart_56 rfl rfl ?_
    first
    | exact absurd c_4 c_19
    | exact absurd c_19 c_4
    | exact absurd c_35 c_19
    | exact absurd c_19 c_35
    | (have e : bgP c W dg as b = some ((b - nI 48) :: c, W, 1, false, as) := by rw [bgP, if_pos c_4]
       exact ⟨isS e, _, rfl, (((((FrR.rf S).si (by decide) _).sa (by decide) _).si (by decide) _).si (by decide) _), fun st q => by rw [e] at q; cases q; exact ⟨rfl, stk_push h2, h53, h3, h54, rfl, rfl, h57⟩⟩)
    | (have e : bgP c W dg as b = some ((-b) :: c, W, 0, false, as) := by rw [bgP, if_neg c_4, if_pos (Int32.not_lt.mp c_11)]
       exact ⟨isS e, _, rfl, (((((FrR.rf S).si (by decide) _).sa (by decide) _).si (by decide) _).si (by decide) _), fun st q => by rw [e] at q; cases q; exact ⟨rfl, stk_push h2, h53, h3, h54, rfl, rfl, h57⟩⟩)
  refine k_iload_n eX6_beginsPart_38 rfl ?_
  refine k_bipush (v := nI 48) eX6_beginsPart_39 (by decide) ?_
  refine k_isub eX6_beginsPart_41 ?_
  refine k_goto 47 eX6_beginsPart_42 (by decide) ?_
  refine cV0 (M' := MX6_emit) eX6_beginsPart_47 mX6_62 wX6_emit vX6_emit ⟨_, _, _, rfl, rfl, rfl⟩ rfl (pX6_emit (S := (si S 55 (nI 1))) (n := c.length) h51 (by omega) ((b - nI 48))) (by decide) (Nat.le_of_ble_eq_true rfl) ?_
  refine k_aload_n eX6_beginsPart_50 rfl ?_
  refine k_iconst (v := nI 0) eX6_beginsPart_51 (by decide) ?_
  refine PX6_31 eX6_beginsPart_52 rfl (Or.inl rfl) ?_
  refine k_iconst (v := nI 1) eX6_beginsPart_55 (by decide) ?_
  refine k_ireturn eX6_beginsPart_56 rfl rfl ?_
  first
  | exact absurd c_4 c_19
  | exact absurd c_19 c_4
  | exact absurd c_35 c_19
  | exact absurd c_19 c_35
  | (have e : bgP c W dg as b = some ((b - nI 48) :: c, W, 1, false, as) := by rw [bgP, if_pos c_4]
     exact ⟨isS e, _, rfl, (((((FrR.rf S).si (by decide) _).sa (by decide) _).si (by decide) _).si (by decide) _), fun st q => by rw [e] at q; cases q; exact ⟨rfl, stk_push h2, h53, h3, h54, rfl, rfl, h57⟩⟩)
  | (have e : bgP c W dg as b = some ((-b) :: c, W, 0, false, as) := by rw [bgP, if_neg c_4, if_pos (Int32.not_lt.mp c_11)]
     exact ⟨isS e, _, rfl, (((((FrR.rf S).si (by decide) _).sa (by decide) _).si (by decide) _).si (by decide) _), fun st q => by rw [e] at q; cases q; exact ⟨rfl, stk_push h2, h53, h3, h54, rfl, rfl, h57⟩⟩)
set_option maxHeartbeats 400000 in
theorem pX6_goesOnBehindPart {S : k_S} {c W : List Int32} {dg : Nat} {as : Bool} (hR : RS S c W dg false as) (hl : c.length + W.length < 120) (hdc : 1 ≤ dg → ∃ x c2, c = x :: c2) (hd4 : dg ≤ 4) (b : Int32) : Sp 4 0 0 MX6_goesOnBehindPart [.ref 1, .int (b)] (hp S) (Rx (some (.int (b2i ((goP c W dg as b).isSome = true)))) (fun S' => FrR S S' ∧ ∀ st, goP c W dg as b = some st → RSt S' st)) := by
  refine Sp_of (by decide +kernel) (Nat.le_of_ble_eq_true rfl) ?_
  show AW none MX6_goesOnBehindPart 4 0 0 0 [.ref 1, .int (b), .null] [] (hp S) _
  obtain ⟨h51, h2, h53, h3, h54, h55, h56, h57⟩ := id hR
  have hlv := lev_le b
  refine k_iload_n eX6_goesOnBehindPart_0 rfl ?_
  refine cS1 (M' := MX6_isDigit) eX6_goesOnBehindPart_1 mX6_53 wX6_isDigit sX6_isDigit rfl (pX6_isDigit (b)) (by decide) (Nat.le_of_ble_eq_true rfl) ?_
  refine k_ifb_eq 16 eX6_goesOnBehindPart_4 (by decide) (fun c_4 => ?_) (fun c_4 => ?_)
  · refine k_aload_n eX6_goesOnBehindPart_16 rfl ?_
    refine k_iconst (v := nI 0) eX6_goesOnBehindPart_17 (by decide) ?_
    refine PX6_28 eX6_goesOnBehindPart_18 rfl ?_
    refine k_iload_n eX6_goesOnBehindPart_21 rfl ?_
    refine k_bipush (v := nI 41) eX6_goesOnBehindPart_22 (by decide) ?_
    refine k_icmp_ne 32 eX6_goesOnBehindPart_24 (by decide) (fun c_24 => ?_) (fun c_24 => ?_)
    · refine k_iload_n eX6_goesOnBehindPart_32 rfl ?_
      refine k_bipush (v := nI 59) eX6_goesOnBehindPart_33 (by decide) ?_
      refine k_icmp_ne 48 eX6_goesOnBehindPart_35 (by decide) (fun c_35 => ?_) (fun c_35 => ?_)
      · refine k_iload_n eX6_goesOnBehindPart_48 rfl ?_
        refine k_bipush (v := nI 63) eX6_goesOnBehindPart_49 (by decide) ?_
        refine k_icmp_ne 59 eX6_goesOnBehindPart_51 (by decide) (fun c_51 => ?_) (fun c_51 => ?_)
        · refine k_iload_n eX6_goesOnBehindPart_59 rfl ?_
          refine cS1 (M' := MX6_levelOf) eX6_goesOnBehindPart_60 mX6_78 wX6_levelOf sX6_levelOf rfl (pX6_levelOf (b)) (by decide) (Nat.le_of_ble_eq_true rfl) ?_
          refine k_istore_n (L2 := [_, _, _]) eX6_goesOnBehindPart_63 (Nat.le_of_ble_eq_true rfl) rfl ?_
          refine k_iload_n eX6_goesOnBehindPart_64 rfl ?_
          refine k_iconst (v := nI 1) eX6_goesOnBehindPart_65 (by decide) ?_
          refine k_icmp_ltN 74 eX6_goesOnBehindPart_66 (by decide) (by omega) (by omega) (fun c_66 => ?_) (fun c_66 => ?_)
          · refine k_iconst (v := nI 0) eX6_goesOnBehindPart_74 (by decide) ?_
            refine k_ireturn eX6_goesOnBehindPart_75 rfl rfl ?_
            have e : goP c W dg as b = none := by unfold goP; rw [if_neg c_4, if_neg c_24, if_neg c_35, if_neg c_51, if_pos (by omega)]
            exact ⟨isN e, _, rfl, ((FrR.rf S).si (by decide) _), fun st q => by rw [e] at q; cases q⟩
          refine k_iload_n eX6_goesOnBehindPart_69 rfl ?_
          refine k_iconst (v := nI 5) eX6_goesOnBehindPart_70 (by decide) ?_
          refine k_icmp_leN 76 eX6_goesOnBehindPart_71 (by decide) (by omega) (by omega) (fun c_71 => ?_) (fun c_71 => ?_)
          · refine k_iload_n eX6_goesOnBehindPart_76 rfl ?_
            refine k_iconst (v := nI 3) eX6_goesOnBehindPart_77 (by decide) ?_
            refine k_icmp_neN 99 eX6_goesOnBehindPart_78 (by decide) (by omega) (by omega) (fun c_78 => ?_) (fun c_78 => ?_)
            · refine k_aload_n eX6_goesOnBehindPart_99 rfl ?_
              refine k_iload_n eX6_goesOnBehindPart_100 rfl ?_
              refine cVX0 (v := .null) (M' := MX6_emitWaiting) eX6_goesOnBehindPart_101 mX6_81 wX6_emitWaiting vX6_emitWaiting ⟨_, _, _, rfl, rfl, rfl⟩ rfl (pX6_emitWaiting (S := (si S 55 (nI 0))) (show RS (si S 55 (nI 0)) c W 0 false as from ⟨h51, h2, h53, h3, h54, rfl, h56, h57⟩) (by omega) (lev b) (by omega) (by omega)) (by decide) (Nat.le_of_ble_eq_true rfl) ?_
              rintro S2 ⟨hR2, f2⟩
              have hl5 := ew_len (lev b) W c
              obtain ⟨g51, g2, g53, g3, g54, g55, g56, g57⟩ := id hR2
              refine k_aload_n eX6_goesOnBehindPart_104 rfl ?_
              refine k_iload_n eX6_goesOnBehindPart_105 rfl ?_
              refine cV0 (M' := MX6_await) eX6_goesOnBehindPart_106 mX6_66 wX6_await vX6_await ⟨_, _, _, rfl, rfl, rfl⟩ rfl (pX6_await (S := S2) (n := (ew (lev b) c W).2.length) g53 (by omega) (b)) (by decide) (Nat.le_of_ble_eq_true rfl) ?_
              refine k_aload_n eX6_goesOnBehindPart_109 rfl ?_
              refine k_iconst (v := nI 1) eX6_goesOnBehindPart_110 (by decide) ?_
              refine PX6_31 eX6_goesOnBehindPart_111 rfl (Or.inr rfl) ?_
              refine k_iconst (v := nI 1) eX6_goesOnBehindPart_114 (by decide) ?_
              refine k_ireturn eX6_goesOnBehindPart_115 rfl rfl ?_
              have hns : ¬ (lev b = 6 ∨ b = nI 40) := fun q => q.elim (fun q => by omega) (fun q => by rw [q, lev40] at c_66; omega)
              have hoc : oc (b :: (ew (lev b) c W).2) = oc (ew (lev b) c W).2 := oc_same _ hns
              have e : goP c W dg as b = some ((ew (lev b) c W).1, b :: (ew (lev b) c W).2, 0, true, as) := by unfold goP; rw [if_neg c_4, if_neg c_24, if_neg c_35, if_neg c_51, if_neg (by omega), if_neg c_78]
              exact ⟨isS e, _, rfl, ((((((FrR.rf S).si (by decide) _).tr f2).sa (by decide) _).si (by decide) _).si (by decide) _), fun st q => by rw [e] at q; cases q; exact ⟨g51, g2, rfl, stk_push g3, (by rw [hoc]; exact g54), g55, rfl, g57⟩⟩
            refine k_aload_n eX6_goesOnBehindPart_81 rfl ?_
            refine k_iconst (v := nI 4) eX6_goesOnBehindPart_82 (by decide) ?_
            refine cVX0 (v := .null) (M' := MX6_emitWaiting) eX6_goesOnBehindPart_83 mX6_81 wX6_emitWaiting vX6_emitWaiting ⟨_, _, _, rfl, rfl, rfl⟩ rfl (pX6_emitWaiting (S := (si S 55 (nI 0))) (show RS (si S 55 (nI 0)) c W 0 false as from ⟨h51, h2, h53, h3, h54, rfl, h56, h57⟩) (by omega) 4 (by decide) (by decide)) (by decide) (Nat.le_of_ble_eq_true rfl) ?_
            rintro S1 ⟨hR1, f1⟩
            have hl4 := ew_len 4 W c
            have hw4 : (ew 4 c W).2.length ≤ 120 := by omega
            have hlv4 := lev_le (hdI (ew 4 c W).2)
            obtain ⟨g51, g2, g53, g3, g54, g55, g56, g57⟩ := id hR1
            refine k_aload_n eX6_goesOnBehindPart_86 rfl ?_
            refine cV1 (M' := MX6_latestWaiting) eX6_goesOnBehindPart_87 mX6_84 wX6_latestWaiting vX6_latestWaiting ⟨_, _, _, rfl, rfl, rfl⟩ rfl (pX6_latestWaiting (S := S1) (W := (ew 4 c W).2) g53 g3 hw4) (by decide) (Nat.le_of_ble_eq_true rfl) ?_
            refine cS1 (M' := MX6_levelOf) eX6_goesOnBehindPart_90 mX6_78 wX6_levelOf sX6_levelOf rfl (pX6_levelOf ((hdI (ew 4 c W).2))) (by decide) (Nat.le_of_ble_eq_true rfl) ?_
            refine k_iconst (v := nI 3) eX6_goesOnBehindPart_93 (by decide) ?_
            refine k_icmp_neN 99 eX6_goesOnBehindPart_94 (by decide) (by omega) (by omega) (fun c_94 => ?_) (fun c_94 => ?_)
            · refine k_aload_n eX6_goesOnBehindPart_99 rfl ?_
              refine k_iload_n eX6_goesOnBehindPart_100 rfl ?_
              refine cVX0 (v := .null) (M' := MX6_emitWaiting) eX6_goesOnBehindPart_101 mX6_81 wX6_emitWaiting vX6_emitWaiting ⟨_, _, _, rfl, rfl, rfl⟩ rfl (pX6_emitWaiting (S := S1) hR1 (by omega) (lev b) (by omega) (by omega)) (by decide) (Nat.le_of_ble_eq_true rfl) ?_
              rintro S2 ⟨hR2, f2⟩
              have hl5 := ew_len (lev b) (ew 4 c W).2 (ew 4 c W).1
              obtain ⟨g51, g2, g53, g3, g54, g55, g56, g57⟩ := id hR2
              refine k_aload_n eX6_goesOnBehindPart_104 rfl ?_
              refine k_iload_n eX6_goesOnBehindPart_105 rfl ?_
              refine cV0 (M' := MX6_await) eX6_goesOnBehindPart_106 mX6_66 wX6_await vX6_await ⟨_, _, _, rfl, rfl, rfl⟩ rfl (pX6_await (S := S2) (n := (ew (lev b) (ew 4 c W).1 (ew 4 c W).2).2.length) g53 (by omega) (b)) (by decide) (Nat.le_of_ble_eq_true rfl) ?_
              refine k_aload_n eX6_goesOnBehindPart_109 rfl ?_
              refine k_iconst (v := nI 1) eX6_goesOnBehindPart_110 (by decide) ?_
              refine PX6_31 eX6_goesOnBehindPart_111 rfl (Or.inr rfl) ?_
              refine k_iconst (v := nI 1) eX6_goesOnBehindPart_114 (by decide) ?_
              refine k_ireturn eX6_goesOnBehindPart_115 rfl rfl ?_
              have hns : ¬ (lev b = 6 ∨ b = nI 40) := fun q => q.elim (fun q => by omega) (fun q => by rw [q, lev40] at c_66; omega)
              have hoc : oc (b :: (ew (lev b) (ew 4 c W).1 (ew 4 c W).2).2) = oc (ew (lev b) (ew 4 c W).1 (ew 4 c W).2).2 := oc_same _ hns
              have e : goP c W dg as b = some ((ew (lev b) (ew 4 c W).1 (ew 4 c W).2).1, b :: (ew (lev b) (ew 4 c W).1 (ew 4 c W).2).2, 0, true, as) := by unfold goP; rw [if_neg c_4, if_neg c_24, if_neg c_35, if_neg c_51, if_neg (by omega), if_pos c_78, if_neg c_94, c_78]
              exact ⟨isS e, _, rfl, ((((((FrR.rf S).si (by decide) _).tr (f1.tr f2)).sa (by decide) _).si (by decide) _).si (by decide) _), fun st q => by rw [e] at q; cases q; exact ⟨g51, g2, rfl, stk_push g3, (by rw [hoc]; exact g54), g55, rfl, g57⟩⟩
            refine k_iconst (v := nI 0) eX6_goesOnBehindPart_97 (by decide) ?_
            refine k_ireturn eX6_goesOnBehindPart_98 rfl rfl ?_
            have e : goP c W dg as b = none := by unfold goP; rw [if_neg c_4, if_neg c_24, if_neg c_35, if_neg c_51, if_neg (by omega), if_pos c_78, if_pos c_94]
            exact ⟨isN e, S1, rfl, ((FrR.rf S).si (by decide) _).tr f1, fun st q => by rw [e] at q; cases q⟩
          refine k_iconst (v := nI 0) eX6_goesOnBehindPart_74 (by decide) ?_
          refine k_ireturn eX6_goesOnBehindPart_75 rfl rfl ?_
          have e : goP c W dg as b = none := by unfold goP; rw [if_neg c_4, if_neg c_24, if_neg c_35, if_neg c_51, if_pos (by omega)]
          exact ⟨isN e, _, rfl, ((FrR.rf S).si (by decide) _), fun st q => by rw [e] at q; cases q⟩
        refine k_aload_n eX6_goesOnBehindPart_54 rfl ?_
        refine cVX1 (M' := MX6_asks) eX6_goesOnBehindPart_55 mX6_75 wX6_asks vX6_asks ⟨_, _, _, rfl, rfl, rfl⟩ rfl (pX6_asks (S := (si S 55 (nI 0))) (show RS (si S 55 (nI 0)) c W 0 false as from ⟨h51, h2, h53, h3, h54, rfl, h56, h57⟩) (by omega)) (by decide) (Nat.le_of_ble_eq_true rfl) ?_
        rintro S1 ⟨f1, hR1⟩
        refine k_ireturn eX6_goesOnBehindPart_58 rfl (k_nb _) ?_
        by_cases hW : as = false ∧ (ew 1 c W).2 = []
        · have e : goP c W dg as b = some ((-63) :: (ew 1 c W).1, [], 0, true, true) := by unfold goP; rw [if_neg c_4, if_neg c_24, if_neg c_35, if_pos c_51, if_pos hW]
          exact ⟨by rw [e, b2i_t hW]; rfl, S1, rfl, ((FrR.rf S).si (by decide) _).tr f1, fun st q => by rw [e] at q; cases q; exact hR1 hW.1 hW.2⟩
        · have e : goP c W dg as b = none := by unfold goP; rw [if_neg c_4, if_neg c_24, if_neg c_35, if_pos c_51, if_neg hW]
          exact ⟨by rw [e, b2i_f hW]; rfl, S1, rfl, ((FrR.rf S).si (by decide) _).tr f1, fun st q => by rw [e] at q; cases q⟩
      refine k_aload_n eX6_goesOnBehindPart_38 rfl ?_
      refine k_iconst (v := nI 1) eX6_goesOnBehindPart_39 (by decide) ?_
      refine PX6_31 eX6_goesOnBehindPart_40 rfl (Or.inr rfl) ?_
      refine k_aload_n eX6_goesOnBehindPart_43 rfl ?_
      refine cVX1 (M' := MX6_endsLine) eX6_goesOnBehindPart_44 mX6_49 wX6_endsLine vX6_endsLine ⟨_, _, _, rfl, rfl, rfl⟩ rfl (pX6_endsLine (S := (si (si S 55 (nI 0)) 56 (nI 1))) (show RS (si (si S 55 (nI 0)) 56 (nI 1)) c W 0 true as from ⟨h51, h2, h53, h3, h54, rfl, rfl, h57⟩) (by omega)) (by decide) (Nat.le_of_ble_eq_true rfl) ?_
      rintro S1 ⟨f1, hR1⟩
      refine k_ireturn eX6_goesOnBehindPart_47 rfl (k_nb _) ?_
      by_cases hW : (ew 1 c W).2 = []
      · have e : goP c W dg as b = some ((-59) :: (ew 1 c W).1, [], 0, true, false) := by unfold goP; rw [if_neg c_4, if_neg c_24, if_pos c_35, if_pos hW]
        exact ⟨by rw [e, b2i_t hW]; rfl, S1, rfl, (((FrR.rf S).si (by decide) _).si (by decide) _).tr f1, fun st q => by rw [e] at q; cases q; exact hR1 hW⟩
      · have e : goP c W dg as b = none := by unfold goP; rw [if_neg c_4, if_neg c_24, if_pos c_35, if_neg hW]
        exact ⟨by rw [e, b2i_f hW]; rfl, S1, rfl, (((FrR.rf S).si (by decide) _).si (by decide) _).tr f1, fun st q => by rw [e] at q; cases q⟩
    refine k_aload_n eX6_goesOnBehindPart_27 rfl ?_
    refine cVX1 (M' := MX6_closes) eX6_goesOnBehindPart_28 mX6_72 wX6_closes vX6_closes ⟨_, _, _, rfl, rfl, rfl⟩ rfl (pX6_closes (S := (si S 55 (nI 0))) (show RS (si S 55 (nI 0)) c W 0 false as from ⟨h51, h2, h53, h3, h54, rfl, h56, h57⟩) (by omega)) (by decide) (Nat.le_of_ble_eq_true rfl) ?_
    rintro S1 ⟨f1, hR1⟩
    refine k_ireturn eX6_goesOnBehindPart_31 rfl (k_nb _) ?_
    cases hW : (ew 1 c W).2 with
    | nil =>
      have e : goP c W dg as b = none := by unfold goP; rw [if_neg c_4, if_pos c_24, hW]
      exact ⟨by rw [e]; rfl, S1, rfl, ((FrR.rf S).si (by decide) _).tr f1, fun st q => by rw [e] at q; cases q⟩
    | cons s W2 =>
      by_cases hs : s = nI 40
      · have e : goP c W dg as b = some ((ew 1 c W).1, W2, 0, false, as) := by unfold goP; rw [if_neg c_4, if_pos c_24, hW]; exact if_pos hs
        exact ⟨by rw [e, b2i_t (show hdI (s :: W2) = nI 40 from hs)]; rfl, S1, rfl, ((FrR.rf S).si (by decide) _).tr f1, fun st q => by rw [e] at q; cases q; exact hR1 W2 (by rw [hW, hs])⟩
      · have e : goP c W dg as b = none := by unfold goP; rw [if_neg c_4, if_pos c_24, hW]; exact if_neg hs
        exact ⟨by rw [e, b2i_f (show ¬ hdI (s :: W2) = nI 40 from hs)]; rfl, S1, rfl, ((FrR.rf S).si (by decide) _).tr f1, fun st q => by rw [e] at q; cases q⟩
  refine k_aload_n eX6_goesOnBehindPart_7 rfl ?_
  refine k_iload_n eX6_goesOnBehindPart_8 rfl ?_
  refine k_bipush (v := nI 48) eX6_goesOnBehindPart_9 (by decide) ?_
  refine k_isub eX6_goesOnBehindPart_11 ?_
  rcases Nat.lt_or_ge dg 1 with hz | hz
  · have e : goP c W dg as b = none := by unfold goP; rw [if_pos c_4, if_pos (Or.inl hz)]
    refine cV1 (M' := MX6_goesOnNumber) eX6_goesOnBehindPart_12 mX6_69 wX6_goesOnNumber vX6_goesOnNumber ⟨_, _, _, rfl, rfl, rfl⟩ rfl (pX6_goesOnNumberN (S := S) hR (Or.inl hz) hd4 (b - nI 48)) (by decide) (Nat.le_of_ble_eq_true rfl) ?_
    refine k_ireturn eX6_goesOnBehindPart_15 rfl rfl ?_
    exact ⟨isN e, S, rfl, FrR.rf S, fun st q => by rw [e] at q; cases q⟩
  rcases Nat.lt_or_ge 3 dg with hz2 | hz2
  · have e : goP c W dg as b = none := by unfold goP; rw [if_pos c_4, if_pos (Or.inr hz2)]
    refine cV1 (M' := MX6_goesOnNumber) eX6_goesOnBehindPart_12 mX6_69 wX6_goesOnNumber vX6_goesOnNumber ⟨_, _, _, rfl, rfl, rfl⟩ rfl (pX6_goesOnNumberN (S := S) hR (Or.inr hz2) hd4 (b - nI 48)) (by decide) (Nat.le_of_ble_eq_true rfl) ?_
    refine k_ireturn eX6_goesOnBehindPart_15 rfl rfl ?_
    exact ⟨isN e, S, rfl, FrR.rf S, fun st q => by rw [e] at q; cases q⟩
  obtain ⟨x, c2, rfl⟩ := hdc hz
  have e : goP (x :: c2) W dg as b = some ((x * nI 10 + (b - nI 48)) :: c2, W, dg + 1, false, as) := by unfold goP; rw [if_pos c_4, if_neg (by omega)]
  refine cVX1 (M' := MX6_goesOnNumber) eX6_goesOnBehindPart_12 mX6_69 wX6_goesOnNumber vX6_goesOnNumber ⟨_, _, _, rfl, rfl, rfl⟩ rfl (pX6_goesOnNumberY (S := S) hR (by simp only [List.length_cons] at hl; omega) ⟨hz, hz2⟩ (b - nI 48)) (by decide) (Nat.le_of_ble_eq_true rfl) ?_
  rintro S1 ⟨hR1, f1⟩
  refine k_ireturn eX6_goesOnBehindPart_15 rfl rfl ?_
  exact ⟨isS e, S1, rfl, f1, fun st q => by rw [e] at q; cases q; exact hR1⟩
def cst (st : cS) (b : Int32) : Option cS := if st.2.2.2.1 = true then bgP st.1 st.2.1 st.2.2.1 st.2.2.2.2 b else goP st.1 st.2.1 st.2.2.1 st.2.2.2.2 b
def crn (t : Nat → Int32) : Nat → Option cS
  | 0 => some ([], [], 0, true, false)
  | j + 1 => (crn t j).bind (fun st => cst st (t j))
def cOk (st : cS) (j : Nat) : Prop := st.1.length + st.2.1.length ≤ j ∧ (1 ≤ st.2.2.1 → st.1 ≠ []) ∧ st.2.2.1 ≤ 4
theorem bgP_ok {c W : List Int32} {dg : Nat} {as : Bool} {b : Int32} {j : Nat} {st : cS} (h : c.length + W.length ≤ j) (h2 : dg ≤ 4) (h3 : 1 ≤ dg → c ≠ []) (e : bgP c W dg as b = some st) : cOk st (j + 1) := by
  unfold bgP at e
  repeat' split at e
  all_goals first | (cases e; done) | (cases e; refine ⟨?_, ?_, ?_⟩ <;> simp only [List.length_cons, ne_eq, reduceCtorEq, not_false_eq_true, implies_true] <;> first | omega | exact h3)
theorem goP_ok {c W : List Int32} {dg : Nat} {as : Bool} {b : Int32} {j : Nat} {st : cS} (h : c.length + W.length ≤ j) (h2 : dg ≤ 4) (e : goP c W dg as b = some st) : cOk st (j + 1) := by
  have l1 := ew_len 1 W c
  have l4 := ew_len 4 W c
  have ll := ew_len (lev b) W c
  have l3 := ew_len 3 (ew 4 c W).2 (ew 4 c W).1
  unfold goP at e
  split at e
  · split at e
    · cases e
    · split at e
      · cases e
      · cases e; refine ⟨?_, ?_, ?_⟩
        · simp only [List.length_cons] at h ⊢; omega
        · intro _ q; cases q
        · show dg + 1 ≤ 4; omega
  split at e
  · split at e
    · cases e
    · rename_i s W2 hW
      split at e
      · cases e; refine ⟨?_, fun q => ?_, ?_⟩
        · rw [hW] at l1; simp only [List.length_cons] at l1; show (ew 1 c W).1.length + W2.length ≤ j + 1; omega
        · have q : 1 ≤ 0 := q; exact absurd q (by decide)
        · show 0 ≤ 4; omega
      · cases e
  split at e
  · split at e
    · cases e; refine ⟨?_, fun q => ?_, ?_⟩
      · show ((-59) :: (ew 1 c W).1).length + 0 ≤ j + 1; simp only [List.length_cons]; omega
      · have q : 1 ≤ 0 := q; exact absurd q (by decide)
      · show 0 ≤ 4; omega
    · cases e
  split at e
  · split at e
    · cases e; refine ⟨?_, fun q => ?_, ?_⟩
      · show ((-63) :: (ew 1 c W).1).length + 0 ≤ j + 1; simp only [List.length_cons]; omega
      · have q : 1 ≤ 0 := q; exact absurd q (by decide)
      · show 0 ≤ 4; omega
    · cases e
  split at e
  · cases e
  split at e
  · split at e
    · cases e
    · cases e; refine ⟨?_, fun q => ?_, ?_⟩
      · show (ew 3 (ew 4 c W).1 (ew 4 c W).2).1.length + (b :: (ew 3 (ew 4 c W).1 (ew 4 c W).2).2).length ≤ j + 1; simp only [List.length_cons]; omega
      · have q : 1 ≤ 0 := q; exact absurd q (by decide)
      · show 0 ≤ 4; omega
  · cases e; refine ⟨?_, fun q => ?_, ?_⟩
    · show (ew (lev b) c W).1.length + (b :: (ew (lev b) c W).2).length ≤ j + 1; simp only [List.length_cons]; omega
    · have q : 1 ≤ 0 := q; exact absurd q (by decide)
    · show 0 ≤ 4; omega
theorem cst_ok {st st2 : cS} {b : Int32} {j : Nat} (h : cOk st j) (e : cst st b = some st2) : cOk st2 (j + 1) := by
  obtain ⟨h1, h2, h3⟩ := h
  unfold cst at e
  split at e
  · exact bgP_ok h1 h3 h2 e
  · exact goP_ok h1 h3 e
theorem crn_ok (t : Nat → Int32) : ∀ j st, crn t j = some st → cOk st j
  | 0, st, e => by cases e; exact ⟨by decide, fun q => absurd q (by decide), by decide⟩
  | j + 1, st, e => by
    rw [crn] at e
    cases h : crn t j with
    | none => rw [h] at e; cases e
    | some s => rw [h] at e; exact cst_ok (crn_ok t j s h) e
/-- what the reader finds: the place of a fault, or all is well and the code stands -/
def FltP (t : Nat → Int32) (n : Nat) (v : Int32) (S : k_S) : Prop :=
  (∃ j st, j < n ∧ crn t j = some st ∧ cst st (t j) = none ∧ v = nI j) ∨ (∃ st, crn t n = some st ∧ ¬ (st.2.2.2.1 = false ∧ (ew 1 st.1 st.2.1).2 = []) ∧ v = nI n) ∨ (∃ st, crn t n = some st ∧ st.2.2.2.1 = false ∧ (ew 1 st.1 st.2.1).2 = [] ∧ v = -1 ∧ S.1 51 = nI ((ew 1 st.1 st.2.1).1.length + 1) ∧ stk (S.2.1 2) ((-59) :: (ew 1 st.1 st.2.1).1))
def FltQ (S : k_S) (t : Nat → Int32) (n : Nat) : Option Value → k_H → Prop := fun r h' => ∃ v S', r = some (.int v) ∧ h' = hp S' ∧ FrR S S' ∧ FltP t n v S' 
theorem lX6_faultOf {d : Nat} (hdd : 5 ≤ d) {S0 : k_S} {n0 : Nat} (hn0 : n0 ≤ 120) (kx : ∀ st S1, crn (S0.2.1 12) n0 = some st → RSt S1 st → FrR S0 S1 → AW none MX6_faultOf d 0 0 80 [.ref 1, .ref 12, .int (nI n0), .int (nI n0), .null] [] (hp S1) (FltQ S0 (S0.2.1 12) n0)) : ∀ (n j : Nat) (st : cS) (S1 : k_S), j + n = n0 → crn (S0.2.1 12) j = some st → RSt S1 st → FrR S0 S1 → AW none MX6_faultOf d 0 0 32 [.ref 1, .ref 12, .int (nI n0), .int (nI j), .null] [] (hp S1) (FltQ S0 (S0.2.1 12) n0) := by
  intro n
  induction n with
  | zero =>
    intro j st S1 hj hst hR f1
    rw [show j = n0 by omega] at hst ⊢
    refine k_iload_n eX6_faultOf_32 rfl ?_
    refine k_iload_n eX6_faultOf_33 rfl ?_
    refine k_icmp_geN 80 eX6_faultOf_34 (by decide) (by omega) (by omega) (fun c_34 => ?_) (fun c_34 => by exfalso; omega)
    exact kx st S1 hst hR f1
  | succ n ih =>
    intro j st S1 hj hst hR f1
    have hok := crn_ok _ _ _ hst
    have hol := hok.1
    refine k_iload_n eX6_faultOf_32 rfl ?_
    refine k_iload_n eX6_faultOf_33 rfl ?_
    refine k_icmp_geN 80 eX6_faultOf_34 (by decide) (by omega) (by omega) (fun c_34 => by exfalso; omega) (fun c_34 => ?_)
    refine k_aload_n eX6_faultOf_37 rfl ?_
    refine k_iload_n eX6_faultOf_38 rfl ?_
    refine cN1 (M' := MX11_read) eX6_faultOf_39 mX6_38 wX11_read sX11_read rfl (pX11_readN (j := j) (ar12 _) (by omega) (by decide)) (by omega) (Nat.le_of_ble_eq_true rfl) ?_
    refine k_topi ((S0.2.1 12 j)) (congrFun (f1.2.1 12 (by decide) (by decide)) j) ?_
    refine k_istore (L2 := [_, _, _, _, _]) eX6_faultOf_42 (Nat.le_of_ble_eq_true rfl) rfl ?_
    refine k_aload_n eX6_faultOf_44 rfl ?_
    refine GX6_31 eX6_faultOf_45 rfl ?_
    refine k_topi (b2i (st.2.2.2.1 = true)) hR.2.2.2.2.2.2.1 ?_
    refine k_ifb_eq 63 eX6_faultOf_48 (by decide) (fun c_48 => ?_) (fun c_48 => ?_)
    · refine k_aload_n eX6_faultOf_63 rfl ?_
      refine k_iload eX6_faultOf_64 rfl ?_
      refine cVX1 (M' := MX6_goesOnBehindPart) eX6_faultOf_66 mX6_46 wX6_goesOnBehindPart vX6_goesOnBehindPart ⟨_, _, _, rfl, rfl, rfl⟩ rfl (pX6_goesOnBehindPart (c := st.1) (W := st.2.1) (dg := st.2.2.1) (as := st.2.2.2.2) (S := S1) (by rw [← Bool.not_eq_true _ |>.mp c_48]; exact hR) (by omega) (fun z => by cases hc : st.1 with
  | nil => exact absurd hc (hok.2.1 z)
  | cons x r => exact ⟨x, r, rfl⟩) hok.2.2 (S0.2.1 12 j)) (by omega) (Nat.le_of_ble_eq_true rfl) ?_
      rintro S2 ⟨f2, hR2⟩
      refine k_ifb_ne 74 eX6_faultOf_69 (by decide) (fun c_69 => ?_) (fun c_69 => ?_)
      · refine k_iincN (g := 1) (a := j) (L2 := [_, _, _, _, _]) eX6_faultOf_74 (Nat.le_of_ble_eq_true rfl) rfl rfl ?_
        refine k_goto 32 eX6_faultOf_77 (by decide) ?_
        obtain ⟨st2, e2⟩ : ∃ st2, cst st (S0.2.1 12 j) = some st2 := by
          first
          | (rw [cst, if_pos c_48]; exact Option.isSome_iff_exists.mp c_57)
          | (rw [cst, if_neg c_48]; exact Option.isSome_iff_exists.mp c_69)
        have hR3 : RSt S2 st2 := by
          first
          | (rw [cst, if_pos c_48] at e2; exact hR2 st2 e2)
          | (rw [cst, if_neg c_48] at e2; exact hR2 st2 e2)
        refine k_forget 4 (L2 := [_, _, _, _, _]) rfl ?_
        exact ih (j + 1) st2 S2 (by omega) (by rw [crn, hst]; exact e2) hR3 (f1.tr f2)
      refine k_iload_n eX6_faultOf_72 rfl ?_
      refine k_ireturn eX6_faultOf_73 rfl rfl ?_
      have e : cst st (S0.2.1 12 j) = none := by
        first
        | (rw [cst, if_pos c_48]; cases hq : bgP st.1 st.2.1 st.2.2.1 st.2.2.2.2 (S0.2.1 12 j) with
           | none => rfl
           | some z => rw [hq] at c_57; exact absurd rfl c_57)
        | (rw [cst, if_neg c_48]; cases hq : goP st.1 st.2.1 st.2.2.1 st.2.2.2.2 (S0.2.1 12 j) with
           | none => rfl
           | some z => rw [hq] at c_69; exact absurd rfl c_69)
      exact ⟨_, S2, rfl, rfl, f1.tr f2, Or.inl ⟨j, st, by omega, hst, e, rfl⟩⟩
    refine k_aload_n eX6_faultOf_51 rfl ?_
    refine k_iload eX6_faultOf_52 rfl ?_
    refine cVX1 (M' := MX6_beginsPart) eX6_faultOf_54 mX6_42 wX6_beginsPart vX6_beginsPart ⟨_, _, _, rfl, rfl, rfl⟩ rfl (pX6_beginsPart (c := st.1) (W := st.2.1) (dg := st.2.2.1) (as := st.2.2.2.2) (S := S1) (by rw [← c_48]; exact hR) (by omega) (S0.2.1 12 j)) (by omega) (Nat.le_of_ble_eq_true rfl) ?_
    rintro S2 ⟨f2, hR2⟩
    refine k_ifb_eq 72 eX6_faultOf_57 (by decide) (fun c_57 => ?_) (fun c_57 => ?_)
    · refine k_iload_n eX6_faultOf_72 rfl ?_
      refine k_ireturn eX6_faultOf_73 rfl rfl ?_
      have e : cst st (S0.2.1 12 j) = none := by
        first
        | (rw [cst, if_pos c_48]; cases hq : bgP st.1 st.2.1 st.2.2.1 st.2.2.2.2 (S0.2.1 12 j) with
           | none => rfl
           | some z => rw [hq] at c_57; exact absurd rfl c_57)
        | (rw [cst, if_neg c_48]; cases hq : goP st.1 st.2.1 st.2.2.1 st.2.2.2.2 (S0.2.1 12 j) with
           | none => rfl
           | some z => rw [hq] at c_69; exact absurd rfl c_69)
      exact ⟨_, S2, rfl, rfl, f1.tr f2, Or.inl ⟨j, st, by omega, hst, e, rfl⟩⟩
    refine k_goto 74 eX6_faultOf_60 (by decide) ?_
    refine k_iincN (g := 1) (a := j) (L2 := [_, _, _, _, _]) eX6_faultOf_74 (Nat.le_of_ble_eq_true rfl) rfl rfl ?_
    refine k_goto 32 eX6_faultOf_77 (by decide) ?_
    obtain ⟨st2, e2⟩ : ∃ st2, cst st (S0.2.1 12 j) = some st2 := by
      first
      | (rw [cst, if_pos c_48]; exact Option.isSome_iff_exists.mp c_57)
      | (rw [cst, if_neg c_48]; exact Option.isSome_iff_exists.mp c_69)
    have hR3 : RSt S2 st2 := by
      first
      | (rw [cst, if_pos c_48] at e2; exact hR2 st2 e2)
      | (rw [cst, if_neg c_48] at e2; exact hR2 st2 e2)
    refine k_forget 4 (L2 := [_, _, _, _, _]) rfl ?_
    exact ih (j + 1) st2 S2 (by omega) (by rw [crn, hst]; exact e2) hR3 (f1.tr f2)
set_option maxHeartbeats 400000 in
theorem pX6_faultOf {S : k_S} {n0 : Nat} (hn0 : n0 ≤ 120) : Sp 5 0 0 MX6_faultOf [.ref 1, .ref 12, .int (nI n0)] (hp S) (FltQ S (S.2.1 12) n0) := by
  refine Sp_of (by decide +kernel) (Nat.le_of_ble_eq_true rfl) ?_
  show AW none MX6_faultOf 5 0 0 0 [.ref 1, .ref 12, .int (nI n0), .null, .null] [] (hp S) _
  refine k_aload_n eX6_faultOf_0 rfl ?_
  refine k_iconst (v := nI 0) eX6_faultOf_1 (by decide) ?_
  refine PX6_18 eX6_faultOf_2 rfl ?_
  refine k_aload_n eX6_faultOf_5 rfl ?_
  refine k_iconst (v := nI 0) eX6_faultOf_6 (by decide) ?_
  refine PX6_22 eX6_faultOf_7 rfl ?_
  refine k_aload_n eX6_faultOf_10 rfl ?_
  refine k_iconst (v := nI 0) eX6_faultOf_11 (by decide) ?_
  refine PX6_25 eX6_faultOf_12 rfl ?_
  refine k_aload_n eX6_faultOf_15 rfl ?_
  refine k_iconst (v := nI 0) eX6_faultOf_16 (by decide) ?_
  refine PX6_28 eX6_faultOf_17 rfl ?_
  refine k_aload_n eX6_faultOf_20 rfl ?_
  refine k_iconst (v := nI 1) eX6_faultOf_21 (by decide) ?_
  refine PX6_31 eX6_faultOf_22 rfl (Or.inr rfl) ?_
  refine k_aload_n eX6_faultOf_25 rfl ?_
  refine k_iconst (v := nI 0) eX6_faultOf_26 (by decide) ?_
  refine PX6_35 eX6_faultOf_27 rfl (Or.inl rfl) ?_
  refine k_iconst (v := nI 0) eX6_faultOf_30 (by decide) ?_
  refine k_istore_n (L2 := [_, _, _, _, _]) eX6_faultOf_31 (Nat.le_of_ble_eq_true rfl) rfl ?_
  have f0 : FrR S (si (si (si (si (si (si S 51 (nI 0)) 53 (nI 0)) 54 (nI 0)) 55 (nI 0)) 56 (nI 1)) 57 (nI 0)) := (((((((FrR.rf S).si (by decide) _).si (by decide) _).si (by decide) _).si (by decide) _).si (by decide) _).si (by decide) _)
  refine lX6_faultOf (by decide) hn0 (fun st S1 hst hR f1 => ?_) n0 0 ([], [], 0, true, false) _ (by omega) rfl ⟨rfl, trivial, rfl, trivial, rfl, rfl, rfl, rfl⟩ f0
  have hol := (crn_ok _ _ _ hst).1
  refine k_aload_n eX6_faultOf_80 rfl ?_
  refine GX6_31 eX6_faultOf_81 rfl ?_
  refine k_topi (b2i (st.2.2.2.1 = true)) hR.2.2.2.2.2.2.1 ?_
  refine k_ifb_ne 98 eX6_faultOf_84 (by decide) (fun c_84 => ?_) (fun c_84 => ?_)
  · refine k_iload_n eX6_faultOf_98 rfl ?_
    refine k_ireturn eX6_faultOf_99 rfl rfl ?_
    exact ⟨_, S1, rfl, rfl, f1, Or.inr (Or.inl ⟨st, hst, (fun q => by rw [q.1] at c_84; cases c_84), rfl⟩)⟩
  refine k_aload_n eX6_faultOf_87 rfl ?_
  refine cVX1 (M' := MX6_endsLine) eX6_faultOf_88 mX6_49 wX6_endsLine vX6_endsLine ⟨_, _, _, rfl, rfl, rfl⟩ rfl (pX6_endsLine (c := st.1) (W := st.2.1) (dg := st.2.2.1) (wa := st.2.2.2.1) (as := st.2.2.2.2) (S := S1) hR (by omega)) (by decide) (Nat.le_of_ble_eq_true rfl) ?_
  rintro S2 ⟨f2, hR2⟩
  refine k_ifb_eq 98 eX6_faultOf_91 (by decide) (fun c_91 => ?_) (fun c_91 => ?_)
  · refine k_iload_n eX6_faultOf_98 rfl ?_
    refine k_ireturn eX6_faultOf_99 rfl rfl ?_
    exact ⟨_, S2, rfl, rfl, f1.tr f2, Or.inr (Or.inl ⟨st, hst, fun q => c_91 q.2, rfl⟩)⟩
  refine k_iconst (v := (-1)) eX6_faultOf_94 (by decide) ?_
  refine k_goto 99 eX6_faultOf_95 (by decide) ?_
  refine k_ireturn eX6_faultOf_99 rfl rfl ?_
  obtain ⟨g51, g2, -⟩ := hR2 c_91
  exact ⟨_, S2, rfl, rfl, f1.tr f2, Or.inr (Or.inr ⟨st, hst, Bool.not_eq_true _ |>.mp c_84, c_91, rfl, g51, g2⟩)⟩
