theorem str_ex {l : Nat} {L i n : Int32} (hL : L = nI l) (hl : l ≤ 60) (h : 0 ≤ i ∧ 0 ≤ n ∧ i ≤ L ∧ n ≤ L - i) : ∃ i' n', i = nI i' ∧ n = nI n' ∧ i' + n' ≤ l := by
  subst hL
  obtain ⟨i', h1, rfl⟩ := k_rngle (n := l) h.1 h.2.2.1 (by omega)
  rw [pk_sub h1] at h
  obtain ⟨n', h2, rfl⟩ := k_rngle (n := l - i') h.2.1 h.2.2.2 (by omega)
  exact ⟨i', n', rfl, rfl, by omega⟩
abbrev pStr (S : k_S) (a : Nat) (i n : Int32) : Prop := 0 ≤ i ∧ 0 ≤ n ∧ i ≤ S.2.1 9 a ∧ n ≤ S.2.1 9 a - i
def aShN (S : k_S) (a : Nat) (i : Int32) (b : Nat) (j n : Int32) : Int32 := if S.2.1 8 a = -2 ∨ S.2.1 8 b = -2 then -11 else if ¬ (0 ≤ S.2.1 8 a ∧ 0 ≤ S.2.1 8 b ∧ S.2.1 8 a = S.2.1 8 b) then -12 else if ¬ (pStr S a i n ∧ pStr S b j n) then -13 else n
def sShN (S : k_S) (a : Nat) (i : Int32) (b : Nat) (j n : Int32) : k_S := if S.2.1 8 a = -2 ∨ S.2.1 8 b = -2 then S else if ¬ (0 ≤ S.2.1 8 a ∧ 0 ≤ S.2.1 8 b ∧ S.2.1 8 a = S.2.1 8 b) then S else if ¬ (pStr S a i n ∧ pStr S b j n) then S else mvS S a (ix i) b (ix j) (ix n)
def aShf (S : k_S) (s i o j n : Int32) : Int32 := if ¬ (pSh s ∧ pSh o) then -1 else aShN S (ix s) i (ix o) j n
def sShf (S : k_S) (s i o j n : Int32) : k_S := if ¬ (pSh s ∧ pSh o) then S else sShN S (ix s) i (ix o) j n
theorem sh_len {S : k_S} {kn a : Nat} (hs : ShOk S kn) (ha : a < 6) (h : 0 ≤ S.2.1 8 a) : ∃ s l, s < 5 ∧ l ≤ 60 ∧ S.2.1 8 a = nI s ∧ S.2.1 9 a = nI l := by
  rcases hs a ha with q | q | q
  · rw [q] at h; exact absurd h (by decide)
  · rw [q.1] at h; exact absurd h (by decide)
  · exact q
def aTaN (S : k_S) (a : Nat) (k : Int32) : Int32 := if S.2.1 8 a = -2 then -11 else if ¬ S.2.1 8 a = -1 then -12 else if undB (ix (S.2.1 5 (ix (S.2.1 9 a)))) (ix k) = true then S.2.1 5 (ix (S.2.1 9 a)) else -12
def aTak (S : k_S) (s k : Int32) : Int32 := if ¬ (pSh s ∧ pIn k (nI 0) (nI 7)) then -1 else aTaN S (ix s) k
set_option maxHeartbeats 400000 in
theorem pX11_shift {S : k_S} {kn : Nat} (hsh : ShOk S kn) (s i o j n : Int32) : Sp 3 0 0 MX11_shift [.ref 0, .int (s), .int (i), .int (o), .int (j), .int (n)] (hp S) (Rt (some (.int (aShf S s i o j n))) (hp (sShf S s i o j n))) := by
  refine Sp_of (by decide +kernel) (Nat.le_of_ble_eq_true rfl) ?_
  show AW none MX11_shift 3 0 0 0 [.ref 0, .int (s), .int (i), .int (o), .int (j), .int (n)] [] (hp S) _
  refine k_aload_n eX11_shift_0 rfl ?_
  refine GX11_26 eX11_shift_1 rfl ?_
  refine k_iload_n eX11_shift_4 rfl ?_
  refine cV1 (M' := MX7_isShelf) eX11_shift_5 mX11_125 wX7_isShelf vX7_isShelf ⟨_, _, _, rfl, rfl, rfl⟩ rfl (pX7_isShelf (S := S) (s)) (by decide) (Nat.le_of_ble_eq_true rfl) ?_
  refine k_ifb_eq 22 eX11_shift_8 (by decide) (fun c_8 => ?_) (fun c_8 => ?_)
  · refine k_iconst (v := (-1)) eX11_shift_22 (by decide) ?_
    refine k_ireturn eX11_shift_23 rfl rfl ?_
    exact ⟨by rw [aShf, if_pos (fun q => by first | exact c_8 q.1 | exact c_19 q.2)], by rw [sShf, if_pos (fun q => by first | exact c_8 q.1 | exact c_19 q.2)]⟩
  refine k_aload_n eX11_shift_11 rfl ?_
  refine GX11_26 eX11_shift_12 rfl ?_
  refine k_iload_n eX11_shift_15 rfl ?_
  refine cV1 (M' := MX7_isShelf) eX11_shift_16 mX11_125 wX7_isShelf vX7_isShelf ⟨_, _, _, rfl, rfl, rfl⟩ rfl (pX7_isShelf (S := S) (o)) (by decide) (Nat.le_of_ble_eq_true rfl) ?_
  refine k_ifb_ne 24 eX11_shift_19 (by decide) (fun c_19 => ?_) (fun c_19 => ?_)
  · obtain ⟨a, ha, rfl⟩ := pSh_ex c_8
    obtain ⟨b, hb, rfl⟩ := pSh_ex c_19
    have eA : aShf S (nI a) i (nI b) j n = aShN S a i b j n := by rw [aShf, if_neg (not_not_intro ⟨c_8, c_19⟩), ix_nI (by omega), ix_nI (by omega)]
    have eS : sShf S (nI a) i (nI b) j n = sShN S a i b j n := by rw [sShf, if_neg (not_not_intro ⟨c_8, c_19⟩), ix_nI (by omega), ix_nI (by omega)]
    rw [eA, eS]
    refine k_aload_n eX11_shift_24 rfl ?_
    refine GX11_26 eX11_shift_25 rfl ?_
    refine k_iload_n eX11_shift_28 rfl ?_
    refine cV1 (M' := MX7_isEmpty) eX11_shift_29 mX11_303 wX7_isEmpty vX7_isEmpty ⟨_, _, _, rfl, rfl, rfl⟩ rfl (pX7_isEmpty (S := S) (j := a) (by omega)) (by decide) (Nat.le_of_ble_eq_true rfl) ?_
    refine k_ifb_ne 46 eX11_shift_32 (by decide) (fun c_32 => ?_) (fun c_32 => ?_)
    · refine k_bipush (v := (-11)) eX11_shift_46 (by decide) ?_
      refine k_ireturn eX11_shift_48 rfl rfl ?_
      exact ⟨by rw [aShN, if_pos (by first | exact Or.inl c_32 | exact Or.inr c_43)], by rw [sShN, if_pos (by first | exact Or.inl c_32 | exact Or.inr c_43)]⟩
    refine k_aload_n eX11_shift_35 rfl ?_
    refine GX11_26 eX11_shift_36 rfl ?_
    refine k_iload_n eX11_shift_39 rfl ?_
    refine cV1 (M' := MX7_isEmpty) eX11_shift_40 mX11_303 wX7_isEmpty vX7_isEmpty ⟨_, _, _, rfl, rfl, rfl⟩ rfl (pX7_isEmpty (S := S) (j := b) (by omega)) (by decide) (Nat.le_of_ble_eq_true rfl) ?_
    refine k_ifb_eq 49 eX11_shift_43 (by decide) (fun c_43 => ?_) (fun c_43 => ?_)
    · refine k_aload_n eX11_shift_49 rfl ?_
      refine GX11_26 eX11_shift_50 rfl ?_
      refine k_iload_n eX11_shift_53 rfl ?_
      refine k_iload_n eX11_shift_54 rfl ?_
      refine cV1 (M' := MX7_areRowsAlike) eX11_shift_55 mX11_306 wX7_areRowsAlike vX7_areRowsAlike ⟨_, _, _, rfl, rfl, rfl⟩ rfl (pX7_areRowsAlike (S := S) (j := a) (k := b) (by omega) (by omega)) (by decide) (Nat.le_of_ble_eq_true rfl) ?_
      refine k_ifb_ne 64 eX11_shift_58 (by decide) (fun c_58 => ?_) (fun c_58 => ?_)
      · refine k_aload_n eX11_shift_64 rfl ?_
        refine GX11_26 eX11_shift_65 rfl ?_
        refine k_iload_n eX11_shift_68 rfl ?_
        refine k_iload_n eX11_shift_69 rfl ?_
        refine k_iload eX11_shift_70 rfl ?_
        refine cV1 (M' := MX7_isStretch) eX11_shift_72 mX11_309 wX7_isStretch vX7_isStretch ⟨_, _, _, rfl, rfl, rfl⟩ rfl (pX7_isStretch (S := S) (j := a) (by omega) (i) (n)) (by decide) (Nat.le_of_ble_eq_true rfl) ?_
        refine k_ifb_eq 93 eX11_shift_75 (by decide) (fun c_75 => ?_) (fun c_75 => ?_)
        · refine k_bipush (v := (-13)) eX11_shift_93 (by decide) ?_
          refine k_ireturn eX11_shift_95 rfl rfl ?_
          exact ⟨by rw [aShN, if_neg (fun q => q.elim c_32 c_43), if_neg (not_not_intro c_58), if_pos (fun q => by first | exact c_75 q.1 | exact c_90 q.2)], by rw [sShN, if_neg (fun q => q.elim c_32 c_43), if_neg (not_not_intro c_58), if_pos (fun q => by first | exact c_75 q.1 | exact c_90 q.2)]⟩
        refine k_aload_n eX11_shift_78 rfl ?_
        refine GX11_26 eX11_shift_79 rfl ?_
        refine k_iload_n eX11_shift_82 rfl ?_
        refine k_iload eX11_shift_83 rfl ?_
        refine k_iload eX11_shift_85 rfl ?_
        refine cV1 (M' := MX7_isStretch) eX11_shift_87 mX11_309 wX7_isStretch vX7_isStretch ⟨_, _, _, rfl, rfl, rfl⟩ rfl (pX7_isStretch (S := S) (j := b) (by omega) (j) (n)) (by decide) (Nat.le_of_ble_eq_true rfl) ?_
        refine k_ifb_ne 96 eX11_shift_90 (by decide) (fun c_90 => ?_) (fun c_90 => ?_)
        · obtain ⟨sa, la, _, hla, _, ela⟩ := sh_len hsh ha c_58.1
          obtain ⟨sb, lb, _, hlb, _, elb⟩ := sh_len hsh hb c_58.2.1
          obtain ⟨u, m, rfl, rfl, hum⟩ := str_ex ela hla c_75
          obtain ⟨w, m2, rfl, em, hwm⟩ := str_ex elb hlb c_90
          have emm : m = m2 := by
            have q := congrArg Int32.toInt em
            rw [nI_toInt (by omega), nI_toInt (by omega)] at q
            omega
          subst emm
          refine k_aload_n eX11_shift_96 rfl ?_
          refine GX11_26 eX11_shift_97 rfl ?_
          refine k_iload_n eX11_shift_100 rfl ?_
          refine k_iload_n eX11_shift_101 rfl ?_
          refine k_iload_n eX11_shift_102 rfl ?_
          refine k_iload eX11_shift_103 rfl ?_
          refine k_iload eX11_shift_105 rfl ?_
          refine cV0 (M' := MX7_move) eX11_shift_107 mX11_312 wX7_move vX7_move ⟨_, _, _, rfl, rfl, rfl⟩ rfl (pX7_move (S := S) (j := a) (i := u) (o := b) (jj := w) (n0 := m) (by omega) (by omega) (by omega) (by omega)) (by decide) (Nat.le_of_ble_eq_true rfl) ?_
          refine k_iload eX11_shift_110 rfl ?_
          refine k_ireturn eX11_shift_112 rfl rfl ?_
          exact ⟨by rw [aShN, if_neg (fun q => q.elim c_32 c_43), if_neg (not_not_intro c_58), if_neg (not_not_intro ⟨c_75, c_90⟩)], by rw [sShN, if_neg (fun q => q.elim c_32 c_43), if_neg (not_not_intro c_58), if_neg (not_not_intro ⟨c_75, c_90⟩), ix_nI (by omega), ix_nI (by omega), ix_nI (by omega)]⟩
        refine k_bipush (v := (-13)) eX11_shift_93 (by decide) ?_
        refine k_ireturn eX11_shift_95 rfl rfl ?_
        exact ⟨by rw [aShN, if_neg (fun q => q.elim c_32 c_43), if_neg (not_not_intro c_58), if_pos (fun q => by first | exact c_75 q.1 | exact c_90 q.2)], by rw [sShN, if_neg (fun q => q.elim c_32 c_43), if_neg (not_not_intro c_58), if_pos (fun q => by first | exact c_75 q.1 | exact c_90 q.2)]⟩
      refine k_bipush (v := (-12)) eX11_shift_61 (by decide) ?_
      refine k_ireturn eX11_shift_63 rfl rfl ?_
      exact ⟨by rw [aShN, if_neg (fun q => q.elim c_32 c_43), if_pos c_58], by rw [sShN, if_neg (fun q => q.elim c_32 c_43), if_pos c_58]⟩
    refine k_bipush (v := (-11)) eX11_shift_46 (by decide) ?_
    refine k_ireturn eX11_shift_48 rfl rfl ?_
    exact ⟨by rw [aShN, if_pos (by first | exact Or.inl c_32 | exact Or.inr c_43)], by rw [sShN, if_pos (by first | exact Or.inl c_32 | exact Or.inr c_43)]⟩
  refine k_iconst (v := (-1)) eX11_shift_22 (by decide) ?_
  refine k_ireturn eX11_shift_23 rfl rfl ?_
  exact ⟨by rw [aShf, if_pos (fun q => by first | exact c_8 q.1 | exact c_19 q.2)], by rw [sShf, if_pos (fun q => by first | exact c_8 q.1 | exact c_19 q.2)]⟩
set_option maxHeartbeats 400000 in
theorem pX11_taken {S : k_S} {kn : Nat} (hsh : ShOk S kn) (hk : KdOk S kn) (s k : Int32) : Sp 3 0 0 MX11_taken [.ref 0, .int (s), .int (k)] (hp S) (Rt (some (.int (aTak S s k))) (hp S)) := by
  refine Sp_of (by decide +kernel) (Nat.le_of_ble_eq_true rfl) ?_
  show AW none MX11_taken 3 0 0 0 [.ref 0, .int (s), .int (k), .null] [] (hp S) _
  refine k_aload_n eX11_taken_0 rfl ?_
  refine GX11_26 eX11_taken_1 rfl ?_
  refine k_iload_n eX11_taken_4 rfl ?_
  refine cV1 (M' := MX7_isShelf) eX11_taken_5 mX11_125 wX7_isShelf vX7_isShelf ⟨_, _, _, rfl, rfl, rfl⟩ rfl (pX7_isShelf (S := S) (s)) (by omega) (Nat.le_of_ble_eq_true rfl) ?_
  refine k_ifb_eq 21 eX11_taken_8 (by decide) (fun c_8 => ?_) (fun c_8 => ?_)
  · refine k_iconst (v := (-1)) eX11_taken_21 (by decide) ?_
    refine k_ireturn eX11_taken_22 rfl rfl ?_
    exact ⟨by rw [aTak, if_pos (fun q => by first | exact c_8 q.1 | exact c_18 q.2)], rfl⟩
  refine k_iload_n eX11_taken_11 rfl ?_
  refine k_iconst (v := nI 0) eX11_taken_12 (by decide) ?_
  refine k_bipush (v := nI 7) eX11_taken_13 (by decide) ?_
  refine cS1 (M' := MX11_within) eX11_taken_15 mX11_114 wX11_within sX11_within rfl (pX11_within (k) (nI 0) (nI 7)) (by omega) (Nat.le_of_ble_eq_true rfl) ?_
  refine k_ifb_ne 23 eX11_taken_18 (by decide) (fun c_18 => ?_) (fun c_18 => ?_)
  · obtain ⟨a, ha, rfl⟩ := pSh_ex c_8
    obtain ⟨w, hw, rfl⟩ := k_rngle c_18.1 c_18.2 (by decide)
    have eA : aTak S (nI a) (nI w) = aTaN S a (nI w) := by rw [aTak, if_neg (not_not_intro ⟨c_8, c_18⟩), ix_nI (by omega)]
    rw [eA]
    refine k_aload_n eX11_taken_23 rfl ?_
    refine GX11_26 eX11_taken_24 rfl ?_
    refine k_iload_n eX11_taken_27 rfl ?_
    refine cV1 (M' := MX7_isEmpty) eX11_taken_28 mX11_303 wX7_isEmpty vX7_isEmpty ⟨_, _, _, rfl, rfl, rfl⟩ rfl (pX7_isEmpty (S := S) (j := a) (by omega)) (by omega) (Nat.le_of_ble_eq_true rfl) ?_
    refine k_ifb_eq 37 eX11_taken_31 (by decide) (fun c_31 => ?_) (fun c_31 => ?_)
    · refine k_aload_n eX11_taken_37 rfl ?_
      refine GX11_26 eX11_taken_38 rfl ?_
      refine k_iload_n eX11_taken_41 rfl ?_
      refine k_iconst (v := (-1)) eX11_taken_42 (by decide) ?_
      refine cV1 (M' := MX7_holdsOtherThan) eX11_taken_43 mX11_128 wX7_holdsOtherThan vX7_holdsOtherThan ⟨_, _, _, rfl, rfl, rfl⟩ rfl (pX7_holdsOtherThan (S := S) (j := a) (by omega) ((-1))) (by omega) (Nat.le_of_ble_eq_true rfl) ?_
      refine k_ifb_eq 52 eX11_taken_46 (by decide) (fun c_46 => ?_) (fun c_46 => ?_)
      · have h1 : S.2.1 8 a = -1 := Decidable.not_not.mp (fun z => c_46 ⟨c_31, z⟩)
        obtain ⟨p, hpk, ep⟩ : ∃ p, p < kn ∧ S.2.1 9 a = nI p := by
          rcases hsh a ha with q | q | ⟨s, l, q1, q2, q3, q4⟩
          · exact absurd q c_31
          · exact q.2
          · rw [q3] at h1; exact absurd (congrArg Int32.toInt h1) (by rw [nI_toInt (by omega), show (-1 : Int32).toInt = -1 from by decide]; omega)
        have hk50 := hk.2.1
        obtain ⟨K, hK, eK⟩ := hk.2.2 p hpk
        refine k_aload_n eX11_taken_52 rfl ?_
        refine GX11_19 eX11_taken_53 rfl ?_
        refine k_aload_n eX11_taken_56 rfl ?_
        refine GX11_26 eX11_taken_57 rfl ?_
        refine k_iload_n eX11_taken_60 rfl ?_
        refine cV1 (M' := MX7_planOn) eX11_taken_61 mX11_316 wX7_planOn vX7_planOn ⟨_, _, _, rfl, rfl, rfl⟩ rfl (pX7_planOn (S := S) (j := a) (by omega)) (by omega) (Nat.le_of_ble_eq_true rfl) ?_
        refine k_topi (nI p) ep ?_
        refine cV1 (M' := MX0_kindOf) eX11_taken_64 mX11_319 wX0_kindOf vX0_kindOf ⟨_, _, _, rfl, rfl, rfl⟩ rfl (pX0_kindOf (S := S) (j := p) (by omega)) (by omega) (Nat.le_of_ble_eq_true rfl) ?_
        refine k_topi (nI K) eK ?_
        refine k_istore_n (L2 := [_, _, _, _]) eX11_taken_67 (Nat.le_of_ble_eq_true rfl) rfl ?_
        refine k_aload_n eX11_taken_68 rfl ?_
        refine GX11_19 eX11_taken_69 rfl ?_
        refine k_iload_n eX11_taken_72 rfl ?_
        refine k_iload_n eX11_taken_73 rfl ?_
        obtain ⟨du, hdu, hu⟩ := uX0_isUnder (S := S) (K := K) (w := w) hK (by omega)
        refine cV1 (M' := MX0_isUnder) eX11_taken_74 mX11_322 wX0_isUnder vX0_isUnder ⟨_, _, _, rfl, rfl, rfl⟩ rfl (hu) (by omega) (Nat.le_of_ble_eq_true rfl) ?_
        refine k_ifb_eq 84 eX11_taken_77 (by decide) (fun c_77 => ?_) (fun c_77 => ?_)
        · refine k_bipush (v := (-12)) eX11_taken_84 (by decide) ?_
          refine k_ireturn eX11_taken_86 rfl rfl ?_
          first | exact ⟨by rw [aTaN, if_neg c_31, if_neg (not_not_intro h1), ep, ix_nI (by omega), eK, ix_nI (by omega), ix_nI (by omega), if_neg c_77], rfl⟩ | exact ⟨by rw [aTaN, if_neg c_31, if_pos c_46.2], rfl⟩
        refine k_iload_n eX11_taken_80 rfl ?_
        refine k_goto 86 eX11_taken_81 (by decide) ?_
        refine k_ireturn eX11_taken_86 rfl rfl ?_
        exact ⟨by rw [aTaN, if_neg c_31, if_neg (not_not_intro h1), ep, ix_nI (by omega), eK, ix_nI (by omega), ix_nI (by omega), if_pos c_77], rfl⟩
      refine k_bipush (v := (-12)) eX11_taken_49 (by decide) ?_
      refine k_ireturn eX11_taken_51 rfl rfl ?_
      first | exact ⟨by rw [aTaN, if_neg c_31, if_neg (not_not_intro h1), ep, ix_nI (by omega), eK, ix_nI (by omega), ix_nI (by omega), if_neg c_77], rfl⟩ | exact ⟨by rw [aTaN, if_neg c_31, if_pos c_46.2], rfl⟩
    refine k_bipush (v := (-11)) eX11_taken_34 (by decide) ?_
    refine k_ireturn eX11_taken_36 rfl rfl ?_
    exact ⟨by rw [aTaN, if_pos c_31], rfl⟩
  refine k_iconst (v := (-1)) eX11_taken_21 (by decide) ?_
  refine k_ireturn eX11_taken_22 rfl rfl ?_
  exact ⟨by rw [aTak, if_pos (fun q => by first | exact c_8 q.1 | exact c_18 q.2)], rfl⟩
def aNum (S : k_S) (x : Int32) : Int32 := if x = nI 0 then S.1 803 else if x = nI 1 then S.1 1003 else if x = nI 2 then nI (cnt (S.2.1 25) 0 120) else if x = nI 3 then S.1 1302 else if x = nI 4 then S.1 11 else if x = nI 5 then S.1 14 else if x = nI 6 then S.1 1656 else if x = nI 7 then S.1 201 else if x = nI 8 then S.1 203 else -1
set_option maxHeartbeats 400000 in
theorem pX11_count0 {S : k_S} : Sp 0 0 0 MX11_count [.ref 0, .int (nI 0)] (hp S) (Rt (some (.int (S.1 803))) (hp S)) := by
  refine Sp_of (by decide +kernel) (Nat.le_of_ble_eq_true rfl) ?_
  show AW none MX11_count 0 0 0 0 [.ref 0, .int (nI 0)] [] (hp S) _
  refine k_iload_n eX11_count_0 rfl ?_
  refine k_tabIn 52 (off := 51) eX11_count_1 (by decide) (by decide) (by decide) (by decide) ?_
  refine k_aload_n eX11_count_52 rfl ?_
  refine GX11_67 eX11_count_53 rfl ?_
  refine GX11_325 eX11_count_56 rfl ?_
  refine k_ireturn eX11_count_59 rfl rfl ?_
  exact ⟨rfl, rfl⟩
set_option maxHeartbeats 400000 in
theorem pX11_count1 {S : k_S} : Sp 0 0 0 MX11_count [.ref 0, .int (nI 1)] (hp S) (Rt (some (.int (S.1 1003))) (hp S)) := by
  refine Sp_of (by decide +kernel) (Nat.le_of_ble_eq_true rfl) ?_
  show AW none MX11_count 0 0 0 0 [.ref 0, .int (nI 1)] [] (hp S) _
  refine k_iload_n eX11_count_0 rfl ?_
  refine k_tabIn 60 (off := 59) eX11_count_1 (by decide) (by decide) (by decide) (by decide) ?_
  refine k_aload_n eX11_count_60 rfl ?_
  refine GX11_71 eX11_count_61 rfl ?_
  refine GX11_259 eX11_count_64 rfl ?_
  refine k_ireturn eX11_count_67 rfl rfl ?_
  exact ⟨rfl, rfl⟩
set_option maxHeartbeats 400000 in
theorem pX11_count2 {S : k_S} : Sp 3 0 0 MX11_count [.ref 0, .int (nI 2)] (hp S) (Rt (some (.int (nI (cnt (S.2.1 25) 0 120)))) (hp S)) := by
  refine Sp_of (by decide +kernel) (Nat.le_of_ble_eq_true rfl) ?_
  show AW none MX11_count 3 0 0 0 [.ref 0, .int (nI 2)] [] (hp S) _
  refine k_iload_n eX11_count_0 rfl ?_
  refine k_tabIn 68 (off := 67) eX11_count_1 (by decide) (by decide) (by decide) (by decide) ?_
  refine k_aload_n eX11_count_68 rfl ?_
  refine GX11_75 eX11_count_69 rfl ?_
  refine k_iconst (v := nI 0) eX11_count_72 (by decide) ?_
  refine k_bipush (v := nI 119) eX11_count_73 (by decide) ?_
  refine cV1 (M' := MX2_working) eX11_count_75 mX11_158 wX2_working vX2_working ⟨_, _, _, rfl, rfl, rfl⟩ rfl (pX2_working (S := S) (a := 0) (b := 119) (by omega) (by omega)) (by decide) (Nat.le_of_ble_eq_true rfl) ?_
  refine k_ireturn eX11_count_78 rfl rfl ?_
  exact ⟨rfl, rfl⟩
set_option maxHeartbeats 400000 in
theorem pX11_count3 {S : k_S} : Sp 0 0 0 MX11_count [.ref 0, .int (nI 3)] (hp S) (Rt (some (.int (S.1 1302))) (hp S)) := by
  refine Sp_of (by decide +kernel) (Nat.le_of_ble_eq_true rfl) ?_
  show AW none MX11_count 0 0 0 0 [.ref 0, .int (nI 3)] [] (hp S) _
  refine k_iload_n eX11_count_0 rfl ?_
  refine k_tabIn 79 (off := 78) eX11_count_1 (by decide) (by decide) (by decide) (by decide) ?_
  refine k_aload_n eX11_count_79 rfl ?_
  refine GX11_79 eX11_count_80 rfl ?_
  refine GX11_326 eX11_count_83 rfl ?_
  refine k_ireturn eX11_count_86 rfl rfl ?_
  exact ⟨rfl, rfl⟩
set_option maxHeartbeats 400000 in
theorem pX11_count4 {S : k_S} : Sp 0 0 0 MX11_count [.ref 0, .int (nI 4)] (hp S) (Rt (some (.int (S.1 11))) (hp S)) := by
  refine Sp_of (by decide +kernel) (Nat.le_of_ble_eq_true rfl) ?_
  show AW none MX11_count 0 0 0 0 [.ref 0, .int (nI 4)] [] (hp S) _
  refine k_iload_n eX11_count_0 rfl ?_
  refine k_tabIn 87 (off := 86) eX11_count_1 (by decide) (by decide) (by decide) (by decide) ?_
  refine k_aload_n eX11_count_87 rfl ?_
  refine GX11_34 eX11_count_88 rfl ?_
  refine k_ireturn eX11_count_91 rfl rfl ?_
  exact ⟨rfl, rfl⟩
set_option maxHeartbeats 400000 in
theorem pX11_count5 {S : k_S} : Sp 0 0 0 MX11_count [.ref 0, .int (nI 5)] (hp S) (Rt (some (.int (S.1 14))) (hp S)) := by
  refine Sp_of (by decide +kernel) (Nat.le_of_ble_eq_true rfl) ?_
  show AW none MX11_count 0 0 0 0 [.ref 0, .int (nI 5)] [] (hp S) _
  refine k_iload_n eX11_count_0 rfl ?_
  refine k_tabIn 92 (off := 91) eX11_count_1 (by decide) (by decide) (by decide) (by decide) ?_
  refine k_aload_n eX11_count_92 rfl ?_
  refine GX11_44 eX11_count_93 rfl ?_
  refine k_ireturn eX11_count_96 rfl rfl ?_
  exact ⟨rfl, rfl⟩
set_option maxHeartbeats 400000 in
theorem pX11_count6 {S : k_S} : Sp 0 0 0 MX11_count [.ref 0, .int (nI 6)] (hp S) (Rt (some (.int (S.1 1656))) (hp S)) := by
  refine Sp_of (by decide +kernel) (Nat.le_of_ble_eq_true rfl) ?_
  show AW none MX11_count 0 0 0 0 [.ref 0, .int (nI 6)] [] (hp S) _
  refine k_iload_n eX11_count_0 rfl ?_
  refine k_tabIn 97 (off := 96) eX11_count_1 (by decide) (by decide) (by decide) (by decide) ?_
  refine k_aload_n eX11_count_97 rfl ?_
  refine GX11_92 eX11_count_98 rfl ?_
  refine GX11_327 eX11_count_101 rfl ?_
  refine k_ireturn eX11_count_104 rfl rfl ?_
  exact ⟨rfl, rfl⟩
set_option maxHeartbeats 400000 in
theorem pX11_count7 {S : k_S} : Sp 0 0 0 MX11_count [.ref 0, .int (nI 7)] (hp S) (Rt (some (.int (S.1 201))) (hp S)) := by
  refine Sp_of (by decide +kernel) (Nat.le_of_ble_eq_true rfl) ?_
  show AW none MX11_count 0 0 0 0 [.ref 0, .int (nI 7)] [] (hp S) _
  refine k_iload_n eX11_count_0 rfl ?_
  refine k_tabIn 105 (off := 104) eX11_count_1 (by decide) (by decide) (by decide) (by decide) ?_
  refine k_aload_n eX11_count_105 rfl ?_
  refine GX11_19 eX11_count_106 rfl ?_
  refine GX11_330 eX11_count_109 rfl ?_
  refine k_ireturn eX11_count_112 rfl rfl ?_
  exact ⟨rfl, rfl⟩
set_option maxHeartbeats 400000 in
theorem pX11_count8 {S : k_S} : Sp 0 0 0 MX11_count [.ref 0, .int (nI 8)] (hp S) (Rt (some (.int (S.1 203))) (hp S)) := by
  refine Sp_of (by decide +kernel) (Nat.le_of_ble_eq_true rfl) ?_
  show AW none MX11_count 0 0 0 0 [.ref 0, .int (nI 8)] [] (hp S) _
  refine k_iload_n eX11_count_0 rfl ?_
  refine k_tabIn 113 (off := 112) eX11_count_1 (by decide) (by decide) (by decide) (by decide) ?_
  refine k_aload_n eX11_count_113 rfl ?_
  refine GX11_19 eX11_count_114 rfl ?_
  refine GX11_331 eX11_count_117 rfl ?_
  refine k_ireturn eX11_count_120 rfl rfl ?_
  exact ⟨rfl, rfl⟩
set_option maxHeartbeats 400000 in
theorem pX11_countN {S : k_S} (x : Int32) (hx : x.toInt < 0 ∨ 8 < x.toInt) : Sp 0 0 0 MX11_count [.ref 0, .int (x)] (hp S) (Rt (some (.int (-1))) (hp S)) := by
  refine Sp_of (by decide +kernel) (Nat.le_of_ble_eq_true rfl) ?_
  show AW none MX11_count 0 0 0 0 [.ref 0, .int (x)] [] (hp S) _
  refine k_iload_n eX11_count_0 rfl ?_
  refine k_tabOut 121 eX11_count_1 hx (by decide) ?_
  refine k_iconst (v := (-1)) eX11_count_121 (by decide) ?_
  refine k_ireturn eX11_count_122 rfl rfl ?_
  exact ⟨rfl, rfl⟩
theorem pX11_count {S : k_S} (x : Int32) : ∃ du, du ≤ 3 ∧ Sp du 0 0 MX11_count [.ref 0, .int x] (hp S) (Rt (some (.int (aNum S x))) (hp S)) := by
  by_cases h0 : x = nI 0
  · subst h0; exact ⟨0, by decide, pX11_count0⟩
  by_cases h1 : x = nI 1
  · subst h1; exact ⟨0, by decide, pX11_count1⟩
  by_cases h2 : x = nI 2
  · subst h2; exact ⟨3, by decide, pX11_count2⟩
  by_cases h3 : x = nI 3
  · subst h3; exact ⟨0, by decide, pX11_count3⟩
  by_cases h4 : x = nI 4
  · subst h4; exact ⟨0, by decide, pX11_count4⟩
  by_cases h5 : x = nI 5
  · subst h5; exact ⟨0, by decide, pX11_count5⟩
  by_cases h6 : x = nI 6
  · subst h6; exact ⟨0, by decide, pX11_count6⟩
  by_cases h7 : x = nI 7
  · subst h7; exact ⟨0, by decide, pX11_count7⟩
  by_cases h8 : x = nI 8
  · subst h8; exact ⟨0, by decide, pX11_count8⟩
  · have e : aNum S x = -1 := by unfold aNum; simp only [h0, h1, h2, h3, h4, h5, h6, h7, h8, if_false]
    rw [e]
    refine ⟨0, by decide, pX11_countN x ?_⟩
    by_cases q : x.toInt < 0
    · exact Or.inl q
    · by_cases q2 : 8 < x.toInt
      · exact Or.inr q2
      · exfalso
        obtain ⟨m, hm, rfl⟩ := k_rngle (x := x) (n := 8) (by rw [Int32.le_iff_toInt_le, nI_toInt (by omega)]; omega) (by rw [Int32.le_iff_toInt_le, nI_toInt (by omega)]; omega) (by decide)
        rcases (by omega : m = 0 ∨ m = 1 ∨ m = 2 ∨ m = 3 ∨ m = 4 ∨ m = 5 ∨ m = 6 ∨ m = 7 ∨ m = 8) with rfl | rfl | rfl | rfl | rfl | rfl | rfl | rfl | rfl
        · exact h0 rfl
        · exact h1 rfl
        · exact h2 rfl
        · exact h3 rfl
        · exact h4 rfl
        · exact h5 rfl
        · exact h6 rfl
        · exact h7 rfl
        · exact h8 rfl
