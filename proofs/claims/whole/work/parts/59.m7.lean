def mShOk (S : k_S) (kn : Nat) : Prop := ∀ j, j < 6 → S.2.1 74 j = -1 ∨ (∃ p, p < kn ∧ S.2.1 74 j = nI p) ∨ (S.2.1 74 j = -2 ∧ ∃ s l, s < 5 ∧ l ≤ 60 ∧ S.2.1 75 j = nI s ∧ S.2.1 76 j = nI l)
theorem pIn_K {k : Nat} (hk : k < 2 ^ 30) (v : Int32) : pIn v (-1) (nI k - nI 1) ↔ v = -1 ∨ pW (nI k) v := by
  have e : (v = -1) ↔ v.toInt = -1 := ⟨fun h => by rw [h]; rfl, fun h => Int32.toInt_inj.mp h⟩
  rw [pIn, pW, e, Int32.le_iff_toInt_le, Int32.le_iff_toInt_le, Int32.le_iff_toInt_le, Int32.lt_iff_toInt_lt, pk_sub_toInt hk (by decide), nI_toInt (by omega), nI_toInt (by omega), show (-1 : Int32).toInt = -1 from by decide]; omega
def mKp (S : k_S) (s b : Int32) : k_S := if pKp (S.1 2627) s b then sa S 74 (va_up (S.2.1 74) (ix s) b) else S
def mRowS (S : k_S) (j : Nat) (t n : Int32) : k_S := sj (sa (sa (sa S 74 (va_up (S.2.1 74) j (-2))) 75 (va_up (S.2.1 75) j t)) 76 (va_up (S.2.1 76) j n)) 77 (fillJ (fun _ => 0) (j * 60) (S.2.2 77) 60)
def mRw (S : k_S) (s t n : Int32) : k_S := if pRw s t n then (if n < 0 then S else mRowS S (ix s) t n) else S
def mrf (S : k_S) (s i : Int32) : Int32 := if ¬ pSh s then -1 else if S.2.1 74 (ix s) = -1 then -11 else if ¬ S.2.1 74 (ix s) = -2 then -12 else if pIn i (nI 0) (S.2.1 76 (ix s) - nI 1) then nI 0 else -13
def aMPut (S : k_S) (s i : Int32) : Int32 := if mrf S s i = 0 then nI 1 else mrf S s i
def mPut (S : k_S) (s i : Int32) (v : Int64) : k_S := if mrf S s i = 0 then sj S 77 (va_up (S.2.2 77) (ix s * 60 + ix i) (lowb (ix (S.2.1 75 (ix s))) v)) else S
def aMElt (S : k_S) (s i : Int32) : Int64 := if mrf S s i = 0 then S.2.2 77 (ix s * 60 + ix i) else -9223372036854775808
theorem mrf_ex {S : k_S} {kn : Nat} {s i : Int32} (hs : mShOk S kn) (hkn : kn ≤ 50) (h : mrf S s i = 0) : ∃ j k t, j < 6 ∧ k < 60 ∧ t < 5 ∧ s = nI j ∧ i = nI k ∧ S.2.1 75 j = nI t := by
  unfold mrf at h
  by_cases h1 : pSh s
  · rw [if_neg (not_not_intro h1)] at h
    by_cases h2 : S.2.1 74 (ix s) = -1
    · rw [if_pos h2] at h; exact absurd h (by decide)
    · rw [if_neg h2] at h
      by_cases h3 : S.2.1 74 (ix s) = -2
      · rw [if_neg (not_not_intro h3)] at h
        by_cases h4 : pIn i (nI 0) (S.2.1 76 (ix s) - nI 1)
        · obtain ⟨j, hj, rfl⟩ := pSh_ex h1
          rw [ix_nI (by omega)] at h2 h3 h4
          rcases hs j hj with q | ⟨p, hp1, q⟩ | ⟨_, t, l, q1, q2, q3, q4⟩
          · exact absurd q h2
          · rw [q] at h3; exact absurd (congrArg Int32.toInt h3) (by rw [nI_toInt (by omega), show (-2 : Int32).toInt = -2 from by decide]; omega)
          · rw [q4, pIn_W (by omega)] at h4
            obtain ⟨k, hk, rfl⟩ := k_rng h4.1 h4.2 (by omega)
            exact ⟨j, k, t, hj, by omega, q1, rfl, rfl, q3⟩
        · rw [if_neg h4] at h; exact absurd h (by decide)
      · rw [if_pos h3] at h; exact absurd h (by decide)
  · rw [if_pos h1] at h; exact absurd h (by decide)
set_option maxHeartbeats 400000 in
theorem pX12_keep {S : k_S} {kn : Nat} (hkn : S.1 2627 = nI kn) (hkn50 : kn ≤ 50) (s b : Int32) : Sp 2 0 0 MX12_keep [.ref 52, .int (s), .int (b)] (hp S) (Rt (some (.int (aKp (S.1 2627) s b))) (hp (mKp S s b))) := by
  refine Sp_of (by decide +kernel) (Nat.le_of_ble_eq_true rfl) ?_
  show AW none MX12_keep 2 0 0 0 [.ref 52, .int (s), .int (b)] [] (hp S) _
  refine k_iload_n eX12_keep_0 rfl ?_
  refine cS1 (M' := MX12_isShelf) eX12_keep_1 mX12_156 wX12_isShelf sX12_isShelf rfl (pX12_isShelf (s)) (by decide) (Nat.le_of_ble_eq_true rfl) ?_
  refine k_ifb_eq 21 eX12_keep_4 (by decide) (fun c_4 => ?_) (fun c_4 => ?_)
  · refine k_iconst (v := (-1)) eX12_keep_21 (by decide) ?_
    refine k_ireturn eX12_keep_22 rfl rfl ?_
    exact ⟨by rw [aKp, hkn, if_neg (fun q => by first | exact c_4 q.1 | exact c_18 ((pIn_K (k := kn) (by omega) b).mpr q.2))], by rw [mKp, hkn, if_neg (fun q => by first | exact c_4 q.1 | exact c_18 ((pIn_K (k := kn) (by omega) b).mpr q.2))]⟩
  refine k_iload_n eX12_keep_7 rfl ?_
  refine k_iconst (v := (-1)) eX12_keep_8 (by decide) ?_
  refine k_aload_n eX12_keep_9 rfl ?_
  refine GX12_302 eX12_keep_10 rfl ?_
  refine k_topi (nI kn) hkn ?_
  refine k_iconst (v := nI 1) eX12_keep_13 (by decide) ?_
  refine k_isub eX12_keep_14 ?_
  refine cS1 (M' := MX12_in) eX12_keep_15 mX12_120 wX12_in sX12_in rfl (pX12_in (b) ((-1)) ((nI kn - nI 1))) (by decide) (Nat.le_of_ble_eq_true rfl) ?_
  refine k_ifb_ne 23 eX12_keep_18 (by decide) (fun c_18 => ?_) (fun c_18 => ?_)
  · obtain ⟨j, hj, rfl⟩ := pSh_ex c_4
    refine k_aload_n eX12_keep_23 rfl ?_
    refine GX12_80 eX12_keep_24 rfl ?_
    refine k_iload_n eX12_keep_27 rfl ?_
    refine k_iload_n eX12_keep_28 rfl ?_
    refine k_iastN (j := j) eX12_keep_29 (ar74 _) (by omega) (Nat.le_of_ble_eq_true rfl) (as74 _ _) ?_
    refine k_iconst (v := nI 1) eX12_keep_30 (by decide) ?_
    refine k_ireturn eX12_keep_31 rfl rfl ?_
    have hC : pKp (nI kn) (nI j) b := ⟨c_4, ((pIn_K (k := kn) (by omega) b).mp c_18)⟩
    exact ⟨by rw [aKp, hkn, if_pos hC], by rw [mKp, hkn, if_pos hC, ix_nI (by omega)]⟩
  refine k_iconst (v := (-1)) eX12_keep_21 (by decide) ?_
  refine k_ireturn eX12_keep_22 rfl rfl ?_
  exact ⟨by rw [aKp, hkn, if_neg (fun q => by first | exact c_4 q.1 | exact c_18 ((pIn_K (k := kn) (by omega) b).mpr q.2))], by rw [mKp, hkn, if_neg (fun q => by first | exact c_4 q.1 | exact c_18 ((pIn_K (k := kn) (by omega) b).mpr q.2))]⟩
set_option maxHeartbeats 400000 in
theorem lX12_row {d : Nat} {Po : Option Value → k_H → Prop} (hdd : 0 ≤ d) {S : k_S} {j : Nat} (hj : j < 6) (t n2 : Int32) (kx : AW none MX12_row d 0 0 82 [.ref 52, .int (nI j), .int (t), .int (n2), .int (nI 60)] [] (hp (sj S 77 (fillJ (fun _ => 0) (j * 60) (S.2.2 77) 60))) Po) : ∀ (n k : Nat), k + n = 60 → AW none MX12_row d 0 0 56 [.ref 52, .int (nI j), .int (t), .int (n2), .int (nI k)] [] (hp (sj S 77 (fillJ (fun _ => 0) (j * 60) (S.2.2 77) k))) Po := by
  intro n
  induction n with
  | zero =>
    intro k hk
    rw [show k = 60 by omega]
    refine k_iload eX12_row_56 rfl ?_
    refine k_bipush (v := nI 60) eX12_row_58 (by decide) ?_
    refine k_icmp_geN 82 eX12_row_60 (by decide) (by omega) (by omega) (fun c_60 => ?_) (fun c_60 => by exfalso; omega)
    exact kx
  | succ n ih =>
    intro k hk
    refine k_iload eX12_row_56 rfl ?_
    refine k_bipush (v := nI 60) eX12_row_58 (by decide) ?_
    refine k_icmp_geN 82 eX12_row_60 (by decide) (by omega) (by omega) (fun c_60 => by exfalso; omega) (fun c_60 => ?_)
    refine k_aload_n eX12_row_63 rfl ?_
    refine GX12_89 eX12_row_64 rfl ?_
    refine k_bipush (v := nI 60) eX12_row_67 (by decide) ?_
    refine k_iload_n eX12_row_69 rfl ?_
    refine k_imulN eX12_row_70 ?_
    refine k_iload eX12_row_71 rfl ?_
    refine k_iaddN eX12_row_73 ?_
    refine k_lconst (v := 0) eX12_row_74 rfl ?_
    refine k_lastN (j := ((60 * j) + k)) eX12_row_75 (ar77 _) (by omega) (Nat.le_of_ble_eq_true rfl) (as77 _ _) ?_
    refine k_iincN (g := 1) (a := k) (L2 := [_, _, _, _, _]) eX12_row_76 (Nat.le_of_ble_eq_true rfl) rfl rfl ?_
    refine k_goto 56 eX12_row_79 (by decide) ?_
    have q := ih (k + 1) (by omega)
    rw [fillJ] at q
    rw [sj_sj, sj_at, Nat.mul_comm 60 j]
    exact q
set_option maxHeartbeats 400000 in
theorem pX12_row {S : k_S} (s t n : Int32) : Sp 2 0 0 MX12_row [.ref 52, .int (s), .int (t), .int (n)] (hp S) (Rt (some (.int (aRw s t n))) (hp (mRw S s t n))) := by
  refine Sp_of (by decide +kernel) (Nat.le_of_ble_eq_true rfl) ?_
  show AW none MX12_row 2 0 0 0 [.ref 52, .int (s), .int (t), .int (n), .null] [] (hp S) _
  refine k_iload_n eX12_row_0 rfl ?_
  refine cS1 (M' := MX12_isShelf) eX12_row_1 mX12_156 wX12_isShelf sX12_isShelf rfl (pX12_isShelf (s)) (by decide) (Nat.le_of_ble_eq_true rfl) ?_
  refine k_ifb_eq 22 eX12_row_4 (by decide) (fun c_4 => ?_) (fun c_4 => ?_)
  · refine k_iconst (v := (-1)) eX12_row_22 (by decide) ?_
    refine k_ireturn eX12_row_23 rfl rfl ?_
    exact ⟨by rw [aRw, if_neg (fun q => by first | exact c_4 q.1 | exact c_13 q.2.1 | exact c_19 q.2.2)], by rw [mRw, if_neg (fun q => by first | exact c_4 q.1 | exact c_13 q.2.1 | exact c_19 q.2.2)]⟩
  refine k_iload_n eX12_row_7 rfl ?_
  refine k_iconst (v := nI 0) eX12_row_8 (by decide) ?_
  refine k_iconst (v := nI 4) eX12_row_9 (by decide) ?_
  refine cS1 (M' := MX12_in) eX12_row_10 mX12_120 wX12_in sX12_in rfl (pX12_in (t) (nI 0) (nI 4)) (by decide) (Nat.le_of_ble_eq_true rfl) ?_
  refine k_ifb_eq 22 eX12_row_13 (by decide) (fun c_13 => ?_) (fun c_13 => ?_)
  · refine k_iconst (v := (-1)) eX12_row_22 (by decide) ?_
    refine k_ireturn eX12_row_23 rfl rfl ?_
    exact ⟨by rw [aRw, if_neg (fun q => by first | exact c_4 q.1 | exact c_13 q.2.1 | exact c_19 q.2.2)], by rw [mRw, if_neg (fun q => by first | exact c_4 q.1 | exact c_13 q.2.1 | exact c_19 q.2.2)]⟩
  refine k_iload_n eX12_row_16 rfl ?_
  refine k_bipush (v := nI 60) eX12_row_17 (by decide) ?_
  refine k_icmp_le 24 eX12_row_19 (by decide) (fun c_19 => ?_) (fun c_19 => ?_)
  · refine k_iload_n eX12_row_24 rfl ?_
    refine k_if_ge 31 eX12_row_25 (by decide) (fun c_25 => ?_) (fun c_25 => ?_)
    · obtain ⟨j, hj, rfl⟩ := pSh_ex c_4
      refine k_aload_n eX12_row_31 rfl ?_
      refine GX12_80 eX12_row_32 rfl ?_
      refine k_iload_n eX12_row_35 rfl ?_
      refine k_bipush (v := (-2)) eX12_row_36 (by decide) ?_
      refine k_iastN (j := j) eX12_row_38 (ar74 _) (by omega) (Nat.le_of_ble_eq_true rfl) (as74 _ _) ?_
      refine k_aload_n eX12_row_39 rfl ?_
      refine GX12_83 eX12_row_40 rfl ?_
      refine k_iload_n eX12_row_43 rfl ?_
      refine k_iload_n eX12_row_44 rfl ?_
      refine k_iastN (j := j) eX12_row_45 (ar75 _) (by omega) (Nat.le_of_ble_eq_true rfl) (as75 _ _) ?_
      refine k_aload_n eX12_row_46 rfl ?_
      refine GX12_86 eX12_row_47 rfl ?_
      refine k_iload_n eX12_row_50 rfl ?_
      refine k_iload_n eX12_row_51 rfl ?_
      refine k_iastN (j := j) eX12_row_52 (ar76 _) (by omega) (Nat.le_of_ble_eq_true rfl) (as76 _ _) ?_
      refine k_iconst (v := nI 0) eX12_row_53 (by decide) ?_
      refine k_istore (L2 := [_, _, _, _, _]) eX12_row_54 (Nat.le_of_ble_eq_true rfl) rfl ?_
      refine k_heap (h2 := hp (sj (sa (sa (sa S 74 (va_up ((S).2.1 74) j ((-2)))) 75 (va_up (((sa S 74 (va_up ((S).2.1 74) j ((-2))))).2.1 75) j (t))) 76 (va_up (((sa (sa S 74 (va_up ((S).2.1 74) j ((-2)))) 75 (va_up (((sa S 74 (va_up ((S).2.1 74) j ((-2))))).2.1 75) j (t)))).2.1 76) j (n))) 77 (fillJ (fun _ => 0) (j * 60) (((sa (sa (sa S 74 (va_up ((S).2.1 74) j ((-2)))) 75 (va_up (((sa S 74 (va_up ((S).2.1 74) j ((-2))))).2.1 75) j (t))) 76 (va_up (((sa (sa S 74 (va_up ((S).2.1 74) j ((-2)))) 75 (va_up (((sa S 74 (va_up ((S).2.1 74) j ((-2))))).2.1 75) j (t)))).2.1 76) j (n)))).2.2 77) 0))) (by rw [fillJ, sj_self]) ?_
      refine lX12_row (S := (sa (sa (sa S 74 (va_up ((S).2.1 74) j ((-2)))) 75 (va_up (((sa S 74 (va_up ((S).2.1 74) j ((-2))))).2.1 75) j (t))) 76 (va_up (((sa (sa S 74 (va_up ((S).2.1 74) j ((-2)))) 75 (va_up (((sa S 74 (va_up ((S).2.1 74) j ((-2))))).2.1 75) j (t)))).2.1 76) j (n)))) (by decide) hj t n ?_ 60 0 (by omega)
      refine k_iconst (v := nI 1) eX12_row_82 (by decide) ?_
      refine k_ireturn eX12_row_83 rfl rfl ?_
      exact ⟨by rw [aRw, if_pos ⟨c_4, c_13, c_19⟩, if_neg (Int32.not_lt.mpr c_25)], by rw [mRw, if_pos ⟨c_4, c_13, c_19⟩, if_neg (Int32.not_lt.mpr c_25), ix_nI (by omega)]; rfl⟩
    refine k_bipush (v := (-14)) eX12_row_28 (by decide) ?_
    refine k_ireturn eX12_row_30 rfl rfl ?_
    exact ⟨by rw [aRw, if_pos ⟨c_4, c_13, c_19⟩, if_pos (Int32.not_le.mp c_25)], by rw [mRw, if_pos ⟨c_4, c_13, c_19⟩, if_pos (Int32.not_le.mp c_25)]⟩
  refine k_iconst (v := (-1)) eX12_row_22 (by decide) ?_
  refine k_ireturn eX12_row_23 rfl rfl ?_
  exact ⟨by rw [aRw, if_neg (fun q => by first | exact c_4 q.1 | exact c_13 q.2.1 | exact c_19 q.2.2)], by rw [mRw, if_neg (fun q => by first | exact c_4 q.1 | exact c_13 q.2.1 | exact c_19 q.2.2)]⟩
set_option maxHeartbeats 400000 in
theorem pX12_wrongAt {S : k_S} (s i : Int32) : Sp 2 0 0 MX12_wrongAt [.ref 52, .int (s), .int (i)] (hp S) (Rt (some (.int (mrf S s i))) (hp S)) := by
  refine Sp_of (by decide +kernel) (Nat.le_of_ble_eq_true rfl) ?_
  show AW none MX12_wrongAt 2 0 0 0 [.ref 52, .int (s), .int (i)] [] (hp S) _
  refine k_iload_n eX12_wrongAt_0 rfl ?_
  refine cS1 (M' := MX12_isShelf) eX12_wrongAt_1 mX12_156 wX12_isShelf sX12_isShelf rfl (pX12_isShelf (s)) (by decide) (Nat.le_of_ble_eq_true rfl) ?_
  refine k_ifb_ne 9 eX12_wrongAt_4 (by decide) (fun c_4 => ?_) (fun c_4 => ?_)
  · obtain ⟨j, hj, rfl⟩ := pSh_ex c_4
    refine k_aload_n eX12_wrongAt_9 rfl ?_
    refine GX12_80 eX12_wrongAt_10 rfl ?_
    refine k_iload_n eX12_wrongAt_13 rfl ?_
    refine k_ialdN (j := j) eX12_wrongAt_14 (ar74 _) (by omega) (Nat.le_of_ble_eq_true rfl) ?_
    refine k_iconst (v := (-1)) eX12_wrongAt_15 (by decide) ?_
    refine k_icmp_ne 24 eX12_wrongAt_16 (by decide) (fun c_16 => ?_) (fun c_16 => ?_)
    · refine k_aload_n eX12_wrongAt_24 rfl ?_
      refine GX12_80 eX12_wrongAt_25 rfl ?_
      refine k_iload_n eX12_wrongAt_28 rfl ?_
      refine k_ialdN (j := j) eX12_wrongAt_29 (ar74 _) (by omega) (Nat.le_of_ble_eq_true rfl) ?_
      refine k_bipush (v := (-2)) eX12_wrongAt_30 (by decide) ?_
      refine k_icmp_eq 40 eX12_wrongAt_32 (by decide) (fun c_32 => ?_) (fun c_32 => ?_)
      · refine k_iload_n eX12_wrongAt_40 rfl ?_
        refine k_iconst (v := nI 0) eX12_wrongAt_41 (by decide) ?_
        refine k_aload_n eX12_wrongAt_42 rfl ?_
        refine GX12_86 eX12_wrongAt_43 rfl ?_
        refine k_iload_n eX12_wrongAt_46 rfl ?_
        refine k_ialdN (j := j) eX12_wrongAt_47 (ar76 _) (by omega) (Nat.le_of_ble_eq_true rfl) ?_
        refine k_iconst (v := nI 1) eX12_wrongAt_48 (by decide) ?_
        refine k_isub eX12_wrongAt_49 ?_
        refine cS1 (M' := MX12_in) eX12_wrongAt_50 mX12_120 wX12_in sX12_in rfl (pX12_in (i) (nI 0) (((((S).2.1 76) j) - nI 1))) (by decide) (Nat.le_of_ble_eq_true rfl) ?_
        refine k_ifb_eq 60 eX12_wrongAt_53 (by decide) (fun c_53 => ?_) (fun c_53 => ?_)
        · refine k_bipush (v := (-13)) eX12_wrongAt_60 (by decide) ?_
          refine k_ireturn eX12_wrongAt_62 rfl rfl ?_
          exact ⟨by rw [mrf, if_neg (not_not_intro c_4), ix_nI (by omega), if_neg c_16, if_neg (not_not_intro c_32), if_neg c_53], rfl⟩
        refine k_iconst (v := nI 0) eX12_wrongAt_56 (by decide) ?_
        refine k_goto 62 eX12_wrongAt_57 (by decide) ?_
        refine k_ireturn eX12_wrongAt_62 rfl rfl ?_
        exact ⟨by rw [mrf, if_neg (not_not_intro c_4), ix_nI (by omega), if_neg c_16, if_neg (not_not_intro c_32), if_pos c_53], rfl⟩
      refine k_bipush (v := (-12)) eX12_wrongAt_35 (by decide) ?_
      refine k_goto 62 eX12_wrongAt_37 (by decide) ?_
      refine k_ireturn eX12_wrongAt_62 rfl rfl ?_
      exact ⟨by rw [mrf, if_neg (not_not_intro c_4), ix_nI (by omega), if_neg c_16, if_pos c_32], rfl⟩
    refine k_bipush (v := (-11)) eX12_wrongAt_19 (by decide) ?_
    refine k_goto 62 eX12_wrongAt_21 (by decide) ?_
    refine k_ireturn eX12_wrongAt_62 rfl rfl ?_
    exact ⟨by rw [mrf, if_neg (not_not_intro c_4), ix_nI (by omega), if_pos c_16], rfl⟩
  refine k_iconst (v := (-1)) eX12_wrongAt_7 (by decide) ?_
  refine k_ireturn eX12_wrongAt_8 rfl rfl ?_
  exact ⟨by rw [mrf, if_pos c_4], rfl⟩
set_option maxHeartbeats 400000 in
theorem pX12_bits0 {h : k_H} (v : Int64) : Sp 0 0 0 MX12_bits [.int (nI 0), .long (v)] h (Rt (some (.long (lowb 0 v))) (h)) := by
  refine Sp_of (by decide +kernel) (Nat.le_of_ble_eq_true rfl) ?_
  show AW none MX12_bits 0 0 0 0 [.int (nI 0), .long (v), .null] [] h _
  refine k_iload_n eX12_bits_0 rfl ?_
  refine k_if_neN 11 eX12_bits_1 (by decide) (by omega) (fun c_1 => by exfalso; omega) (fun c_1 => ?_)
  refine k_lload_n eX12_bits_4 rfl ?_
  refine k_l2i eX12_bits_5 ?_
  refine k_i2b eX12_bits_6 ?_
  refine k_i2l eX12_bits_7 ?_
  refine k_goto 54 eX12_bits_8 (by decide) ?_
  refine k_lreturn eX12_bits_54 rfl ?_
  exact ⟨rfl, rfl⟩
set_option maxHeartbeats 400000 in
theorem pX12_bits1 {h : k_H} (v : Int64) : Sp 0 0 0 MX12_bits [.int (nI 1), .long (v)] h (Rt (some (.long (lowb 1 v))) (h)) := by
  refine Sp_of (by decide +kernel) (Nat.le_of_ble_eq_true rfl) ?_
  show AW none MX12_bits 0 0 0 0 [.int (nI 1), .long (v), .null] [] h _
  refine k_iload_n eX12_bits_0 rfl ?_
  refine k_if_neN 11 eX12_bits_1 (by decide) (by omega) (fun c_1 => ?_) (fun c_1 => by exfalso; omega)
  refine k_iload_n eX12_bits_11 rfl ?_
  refine k_iconst (v := nI 1) eX12_bits_12 (by decide) ?_
  refine k_icmp_neN 23 eX12_bits_13 (by decide) (by omega) (by omega) (fun c_13 => by exfalso; omega) (fun c_13 => ?_)
  refine k_lload_n eX12_bits_16 rfl ?_
  refine k_l2i eX12_bits_17 ?_
  refine k_i2s eX12_bits_18 ?_
  refine k_i2l eX12_bits_19 ?_
  refine k_goto 54 eX12_bits_20 (by decide) ?_
  refine k_lreturn eX12_bits_54 rfl ?_
  exact ⟨rfl, rfl⟩
set_option maxHeartbeats 400000 in
theorem pX12_bits2 {h : k_H} (v : Int64) : Sp 0 0 0 MX12_bits [.int (nI 2), .long (v)] h (Rt (some (.long (lowb 2 v))) (h)) := by
  refine Sp_of (by decide +kernel) (Nat.le_of_ble_eq_true rfl) ?_
  show AW none MX12_bits 0 0 0 0 [.int (nI 2), .long (v), .null] [] h _
  refine k_iload_n eX12_bits_0 rfl ?_
  refine k_if_neN 11 eX12_bits_1 (by decide) (by omega) (fun c_1 => ?_) (fun c_1 => by exfalso; omega)
  refine k_iload_n eX12_bits_11 rfl ?_
  refine k_iconst (v := nI 1) eX12_bits_12 (by decide) ?_
  refine k_icmp_neN 23 eX12_bits_13 (by decide) (by omega) (by omega) (fun c_13 => ?_) (fun c_13 => by exfalso; omega)
  refine k_iload_n eX12_bits_23 rfl ?_
  refine k_iconst (v := nI 2) eX12_bits_24 (by decide) ?_
  refine k_icmp_neN 34 eX12_bits_25 (by decide) (by omega) (by omega) (fun c_25 => by exfalso; omega) (fun c_25 => ?_)
  refine k_lload_n eX12_bits_28 rfl ?_
  refine k_l2i eX12_bits_29 ?_
  refine k_i2l eX12_bits_30 ?_
  refine k_goto 54 eX12_bits_31 (by decide) ?_
  refine k_lreturn eX12_bits_54 rfl ?_
  exact ⟨rfl, rfl⟩
set_option maxHeartbeats 400000 in
theorem pX12_bits3 {h : k_H} (v : Int64) : Sp 0 0 0 MX12_bits [.int (nI 3), .long (v)] h (Rt (some (.long (lowb 3 v))) (h)) := by
  refine Sp_of (by decide +kernel) (Nat.le_of_ble_eq_true rfl) ?_
  show AW none MX12_bits 0 0 0 0 [.int (nI 3), .long (v), .null] [] h _
  refine k_iload_n eX12_bits_0 rfl ?_
  refine k_if_neN 11 eX12_bits_1 (by decide) (by omega) (fun c_1 => ?_) (fun c_1 => by exfalso; omega)
  refine k_iload_n eX12_bits_11 rfl ?_
  refine k_iconst (v := nI 1) eX12_bits_12 (by decide) ?_
  refine k_icmp_neN 23 eX12_bits_13 (by decide) (by omega) (by omega) (fun c_13 => ?_) (fun c_13 => by exfalso; omega)
  refine k_iload_n eX12_bits_23 rfl ?_
  refine k_iconst (v := nI 2) eX12_bits_24 (by decide) ?_
  refine k_icmp_neN 34 eX12_bits_25 (by decide) (by omega) (by omega) (fun c_25 => ?_) (fun c_25 => by exfalso; omega)
  refine k_iload_n eX12_bits_34 rfl ?_
  refine k_iconst (v := nI 3) eX12_bits_35 (by decide) ?_
  refine k_icmp_neN 43 eX12_bits_36 (by decide) (by omega) (by omega) (fun c_36 => by exfalso; omega) (fun c_36 => ?_)
  refine k_lload_n eX12_bits_39 rfl ?_
  refine k_goto 54 eX12_bits_40 (by decide) ?_
  refine k_lreturn eX12_bits_54 rfl ?_
  exact ⟨rfl, rfl⟩
set_option maxHeartbeats 400000 in
theorem pX12_bits4 {h : k_H} (v : Int64) : Sp 0 0 0 MX12_bits [.int (nI 4), .long (v)] h (Rt (some (.long (lowb 4 v))) (h)) := by
  refine Sp_of (by decide +kernel) (Nat.le_of_ble_eq_true rfl) ?_
  show AW none MX12_bits 0 0 0 0 [.int (nI 4), .long (v), .null] [] h _
  refine k_iload_n eX12_bits_0 rfl ?_
  refine k_if_neN 11 eX12_bits_1 (by decide) (by omega) (fun c_1 => ?_) (fun c_1 => by exfalso; omega)
  refine k_iload_n eX12_bits_11 rfl ?_
  refine k_iconst (v := nI 1) eX12_bits_12 (by decide) ?_
  refine k_icmp_neN 23 eX12_bits_13 (by decide) (by omega) (by omega) (fun c_13 => ?_) (fun c_13 => by exfalso; omega)
  refine k_iload_n eX12_bits_23 rfl ?_
  refine k_iconst (v := nI 2) eX12_bits_24 (by decide) ?_
  refine k_icmp_neN 34 eX12_bits_25 (by decide) (by omega) (by omega) (fun c_25 => ?_) (fun c_25 => by exfalso; omega)
  refine k_iload_n eX12_bits_34 rfl ?_
  refine k_iconst (v := nI 3) eX12_bits_35 (by decide) ?_
  refine k_icmp_neN 43 eX12_bits_36 (by decide) (by omega) (by omega) (fun c_36 => ?_) (fun c_36 => by exfalso; omega)
  refine k_lload_n eX12_bits_43 rfl ?_
  refine k_lconst (v := 0) eX12_bits_44 rfl ?_
  refine k_lcmp eX12_bits_45 ?_
  refine k_if_eq 53 eX12_bits_46 (by decide) (fun c_46 => ?_) (fun c_46 => ?_)
  · refine k_lconst (v := 0) eX12_bits_53 rfl ?_
    refine k_lreturn eX12_bits_54 rfl ?_
    exact ⟨by rw [lowb_4, if_pos (by rwa [lg_cmp_0] at c_46)], rfl⟩
  refine k_lconst (v := 1) eX12_bits_49 rfl ?_
  refine k_goto 54 eX12_bits_50 (by decide) ?_
  refine k_lreturn eX12_bits_54 rfl ?_
  exact ⟨by rw [lowb_4, if_neg (by rwa [lg_cmp_0] at c_46)], rfl⟩
theorem pX12_bits {h : k_H} {s : Nat} (hs : s < 5) (v : Int64) : Sp 0 0 0 MX12_bits [.int (nI s), .long v] h (Rt (some (.long (lowb s v))) h) := by
  rcases (by omega : s = 0 ∨ s = 1 ∨ s = 2 ∨ s = 3 ∨ s = 4) with rfl | rfl | rfl | rfl | rfl
  · exact pX12_bits0 v
  · exact pX12_bits1 v
  · exact pX12_bits2 v
  · exact pX12_bits3 v
  · exact pX12_bits4 v
set_option maxHeartbeats 400000 in
theorem pX12_put {S : k_S} {kn : Nat} (hsh : mShOk S kn) (hkn50 : kn ≤ 50) (s i : Int32) (v : Int64) : Sp 3 0 0 MX12_put [.ref 52, .int (s), .int (i), .long (v)] (hp S) (Rt (some (.int (aMPut S s i))) (hp (mPut S s i v))) := by
  refine Sp_of (by decide +kernel) (Nat.le_of_ble_eq_true rfl) ?_
  show AW none MX12_put 3 0 0 0 [.ref 52, .int (s), .int (i), .long (v), .null, .null] [] (hp S) _
  refine k_aload_n eX12_put_0 rfl ?_
  refine k_iload_n eX12_put_1 rfl ?_
  refine k_iload_n eX12_put_2 rfl ?_
  refine cV1 (M' := MX12_wrongAt) eX12_put_3 mX12_329 wX12_wrongAt vX12_wrongAt ⟨_, _, _, rfl, rfl, rfl⟩ rfl (pX12_wrongAt (S := S) (s) (i)) (by decide) (Nat.le_of_ble_eq_true rfl) ?_
  refine k_istore (L2 := [_, _, _, _, _, _]) eX12_put_6 (Nat.le_of_ble_eq_true rfl) rfl ?_
  refine k_iload eX12_put_8 rfl ?_
  refine k_if_eq 16 eX12_put_10 (by decide) (fun c_10 => ?_) (fun c_10 => ?_)
  · obtain ⟨j, k, t, hj, hk, hs, rfl, rfl, hso⟩ := mrf_ex hsh hkn50 c_10
    refine k_aload_n eX12_put_16 rfl ?_
    refine GX12_89 eX12_put_17 rfl ?_
    refine k_bipush (v := nI 60) eX12_put_20 (by decide) ?_
    refine k_iload_n eX12_put_22 rfl ?_
    refine k_imulN eX12_put_23 ?_
    refine k_iload_n eX12_put_24 rfl ?_
    refine k_iaddN eX12_put_25 ?_
    refine k_aload_n eX12_put_26 rfl ?_
    refine GX12_83 eX12_put_27 rfl ?_
    refine k_iload_n eX12_put_30 rfl ?_
    refine k_ialdN (j := j) eX12_put_31 (ar75 _) (by omega) (Nat.le_of_ble_eq_true rfl) ?_
    refine k_topi (nI t) hso ?_
    refine k_lload_n eX12_put_32 rfl ?_
    refine cS1 (M' := MX12_bits) eX12_put_33 mX12_332 wX12_bits sX12_bits rfl (pX12_bits (s := t) (by omega) (v)) (by decide) (Nat.le_of_ble_eq_true rfl) ?_
    refine k_lastN (j := ((60 * j) + k)) eX12_put_36 (ar77 _) (by omega) (Nat.le_of_ble_eq_true rfl) (as77 _ _) ?_
    refine k_iconst (v := nI 1) eX12_put_37 (by decide) ?_
    refine k_ireturn eX12_put_38 rfl rfl ?_
    exact ⟨by rw [aMPut, if_pos c_10], by rw [mPut, if_pos c_10, ix_nI (by omega), ix_nI (by omega), hso, ix_nI (by omega), Nat.mul_comm 60 j]⟩
  refine k_iload eX12_put_13 rfl ?_
  refine k_ireturn eX12_put_15 rfl rfl ?_
  exact ⟨by rw [aMPut, if_neg c_10], by rw [mPut, if_neg c_10]⟩
set_option maxHeartbeats 400000 in
theorem pX12_element {S : k_S} {kn : Nat} (hsh : mShOk S kn) (hkn50 : kn ≤ 50) (s i : Int32) : Sp 3 0 0 MX12_element [.ref 52, .int (s), .int (i)] (hp S) (Rt (some (.long (aMElt S s i))) (hp S)) := by
  refine Sp_of (by decide +kernel) (Nat.le_of_ble_eq_true rfl) ?_
  show AW none MX12_element 3 0 0 0 [.ref 52, .int (s), .int (i), .null] [] (hp S) _
  refine k_aload_n eX12_element_0 rfl ?_
  refine k_iload_n eX12_element_1 rfl ?_
  refine k_iload_n eX12_element_2 rfl ?_
  refine cV1 (M' := MX12_wrongAt) eX12_element_3 mX12_329 wX12_wrongAt vX12_wrongAt ⟨_, _, _, rfl, rfl, rfl⟩ rfl (pX12_wrongAt (S := S) (s) (i)) (by decide) (Nat.le_of_ble_eq_true rfl) ?_
  refine k_istore_n (L2 := [_, _, _, _]) eX12_element_6 (Nat.le_of_ble_eq_true rfl) rfl ?_
  refine k_iload_n eX12_element_7 rfl ?_
  refine k_if_eq 17 eX12_element_8 (by decide) (fun c_8 => ?_) (fun c_8 => ?_)
  · obtain ⟨j, k, t, hj, hk, hs, rfl, rfl, hso⟩ := mrf_ex hsh hkn50 c_8
    refine k_aload_n eX12_element_17 rfl ?_
    refine GX12_89 eX12_element_18 rfl ?_
    refine k_bipush (v := nI 60) eX12_element_21 (by decide) ?_
    refine k_iload_n eX12_element_23 rfl ?_
    refine k_imulN eX12_element_24 ?_
    refine k_iload_n eX12_element_25 rfl ?_
    refine k_iaddN eX12_element_26 ?_
    refine k_laldN (j := ((60 * j) + k)) eX12_element_27 (ar77 _) (by omega) (Nat.le_of_ble_eq_true rfl) ?_
    refine k_lreturn eX12_element_28 rfl ?_
    exact ⟨by rw [aMElt, if_pos c_8, ix_nI (by omega), ix_nI (by omega), Nat.mul_comm 60 j], rfl⟩
  refine k_ldc2 eX12_element_11 kX12_338 rfl ?_
  refine k_goto 28 eX12_element_14 (by decide) ?_
  refine k_lreturn eX12_element_28 rfl ?_
  exact ⟨by rw [aMElt, if_neg c_8], rfl⟩
def mmA (S : k_S) (j i n : Nat) : Nat → Int64 := fillJ (fun k => S.2.2 77 (j * 60 + (i + k))) 0 (S.2.2 86) n
def mmS (S : k_S) (j i o jj n : Nat) : k_S := sj (sj S 86 (mmA S j i n)) 77 (fillJ (mmA S j i n) (o * 60 + jj) (S.2.2 77) n)
abbrev pMStr (S : k_S) (a : Nat) (i : Int32) (b : Nat) (j n : Int32) : Prop := ¬ n < 0 ∧ ¬ i < 0 ∧ ¬ j < 0 ∧ i ≤ S.2.1 76 a ∧ j ≤ S.2.1 76 b ∧ n ≤ S.2.1 76 a - i ∧ n ≤ S.2.1 76 b - j
def aMShN (S : k_S) (a : Nat) (i : Int32) (b : Nat) (j n : Int32) : Int32 := if S.2.1 74 a = -1 ∨ S.2.1 74 b = -1 then -11 else if ¬ (S.2.1 74 a = -2 ∧ S.2.1 74 b = -2 ∧ S.2.1 75 a = S.2.1 75 b) then -12 else if ¬ pMStr S a i b j n then -13 else n
def mShN (S : k_S) (a : Nat) (i : Int32) (b : Nat) (j n : Int32) : k_S := if S.2.1 74 a = -1 ∨ S.2.1 74 b = -1 then S else if ¬ (S.2.1 74 a = -2 ∧ S.2.1 74 b = -2 ∧ S.2.1 75 a = S.2.1 75 b) then S else if ¬ pMStr S a i b j n then S else mmS S a (ix i) b (ix j) (ix n)
def aMShf (S : k_S) (s i o j n : Int32) : Int32 := if ¬ (pSh s ∧ pSh o) then -1 else aMShN S (ix s) i (ix o) j n
def mShf (S : k_S) (s i o j n : Int32) : k_S := if ¬ (pSh s ∧ pSh o) then S else mShN S (ix s) i (ix o) j n
theorem msh_len {S : k_S} {kn a : Nat} (hs : mShOk S kn) (hkn : kn ≤ 50) (ha : a < 6) (h : S.2.1 74 a = -2) : ∃ s l, s < 5 ∧ l ≤ 60 ∧ S.2.1 75 a = nI s ∧ S.2.1 76 a = nI l := by
  rcases hs a ha with q | ⟨p, hp1, q⟩ | ⟨_, q⟩
  · rw [q] at h; exact absurd h (by decide)
  · rw [q] at h; exact absurd (congrArg Int32.toInt h) (by rw [nI_toInt (by omega), show (-2 : Int32).toInt = -2 from by decide]; omega)
  · exact q
set_option maxHeartbeats 400000 in
theorem lX12_shifta {d : Nat} {Po : Option Value → k_H → Prop} (hdd : 0 ≤ d) {S : k_S} {a i b jj n0 : Nat} (ha : a < 6) (hb : b < 6) (hi : i + n0 ≤ 60) (hjj : jj + n0 ≤ 60) (kx : AW none MX12_shift d 0 0 181 [.ref 52, .int (nI a), .int (nI i), .int (nI b), .int (nI jj), .int (nI n0), .int (nI n0)] [] (hp (sj S 86 (mmA S a i n0))) Po) : ∀ (n k : Nat), k + n = n0 → AW none MX12_shift d 0 0 147 [.ref 52, .int (nI a), .int (nI i), .int (nI b), .int (nI jj), .int (nI n0), .int (nI k)] [] (hp (sj S 86 (mmA S a i k))) Po := by
  intro n
  induction n with
  | zero =>
    intro k hk
    rw [show k = n0 by omega]
    refine k_iload eX12_shift_147 rfl ?_
    refine k_iload eX12_shift_149 rfl ?_
    refine k_icmp_geN 181 eX12_shift_151 (by decide) (by omega) (by omega) (fun c_151 => ?_) (fun c_151 => by exfalso; omega)
    exact kx
  | succ n ih =>
    intro k hk
    refine k_iload eX12_shift_147 rfl ?_
    refine k_iload eX12_shift_149 rfl ?_
    refine k_icmp_geN 181 eX12_shift_151 (by decide) (by omega) (by omega) (fun c_151 => by exfalso; omega) (fun c_151 => ?_)
    refine k_aload_n eX12_shift_154 rfl ?_
    refine GX12_117 eX12_shift_155 rfl ?_
    refine k_iload eX12_shift_158 rfl ?_
    refine k_aload_n eX12_shift_160 rfl ?_
    refine GX12_89 eX12_shift_161 rfl ?_
    refine k_bipush (v := nI 60) eX12_shift_164 (by decide) ?_
    refine k_iload_n eX12_shift_166 rfl ?_
    refine k_imulN eX12_shift_167 ?_
    refine k_iload_n eX12_shift_168 rfl ?_
    refine k_iaddN eX12_shift_169 ?_
    refine k_iload eX12_shift_170 rfl ?_
    refine k_iaddN eX12_shift_172 ?_
    refine k_laldN (j := (((60 * a) + i) + k)) eX12_shift_173 (ar77 _) (by omega) (Nat.le_of_ble_eq_true rfl) ?_
    refine k_lastN (j := k) eX12_shift_174 (ar86 _) (by omega) (Nat.le_of_ble_eq_true rfl) (as86 _ _) ?_
    refine k_iincN (g := 1) (a := k) (L2 := [_, _, _, _, _, _, _]) eX12_shift_175 (Nat.le_of_ble_eq_true rfl) rfl rfl ?_
    refine k_goto 147 eX12_shift_178 (by decide) ?_
    have q := ih (k + 1) (by omega)
    rw [mmA, fillJ, Nat.zero_add] at q
    rw [sj_sj, sj_at, show 60 * a + i + k = a * 60 + (i + k) by omega]
    exact q
set_option maxHeartbeats 400000 in
theorem lX12_shiftb {d : Nat} {Po : Option Value → k_H → Prop} (hdd : 0 ≤ d) {T : k_S} {a i b jj n0 : Nat} (hb : b < 6) (hn0 : n0 ≤ 60) (hjj : jj + n0 ≤ 60) (kx : AW none MX12_shift d 0 0 219 [.ref 52, .int (nI a), .int (nI i), .int (nI b), .int (nI jj), .int (nI n0), .int (nI n0)] [] (hp (sj T 77 (fillJ (T.2.2 86) (b * 60 + jj) (T.2.2 77) n0))) Po) : ∀ (n k : Nat), k + n = n0 → AW none MX12_shift d 0 0 184 [.ref 52, .int (nI a), .int (nI i), .int (nI b), .int (nI jj), .int (nI n0), .int (nI k)] [] (hp (sj T 77 (fillJ (T.2.2 86) (b * 60 + jj) (T.2.2 77) k))) Po := by
  intro n
  induction n with
  | zero =>
    intro k hk
    rw [show k = n0 by omega]
    refine k_iload eX12_shift_184 rfl ?_
    refine k_iload eX12_shift_186 rfl ?_
    refine k_icmp_geN 219 eX12_shift_188 (by decide) (by omega) (by omega) (fun c_188 => ?_) (fun c_188 => by exfalso; omega)
    exact kx
  | succ n ih =>
    intro k hk
    refine k_iload eX12_shift_184 rfl ?_
    refine k_iload eX12_shift_186 rfl ?_
    refine k_icmp_geN 219 eX12_shift_188 (by decide) (by omega) (by omega) (fun c_188 => by exfalso; omega) (fun c_188 => ?_)
    refine k_aload_n eX12_shift_191 rfl ?_
    refine GX12_89 eX12_shift_192 rfl ?_
    refine k_bipush (v := nI 60) eX12_shift_195 (by decide) ?_
    refine k_iload_n eX12_shift_197 rfl ?_
    refine k_imulN eX12_shift_198 ?_
    refine k_iload eX12_shift_199 rfl ?_
    refine k_iaddN eX12_shift_201 ?_
    refine k_iload eX12_shift_202 rfl ?_
    refine k_iaddN eX12_shift_204 ?_
    refine k_aload_n eX12_shift_205 rfl ?_
    refine GX12_117 eX12_shift_206 rfl ?_
    refine k_iload eX12_shift_209 rfl ?_
    refine k_laldN (j := k) eX12_shift_211 (ar86 _) (by omega) (Nat.le_of_ble_eq_true rfl) ?_
    refine k_lastN (j := (((60 * b) + jj) + k)) eX12_shift_212 (ar77 _) (by omega) (Nat.le_of_ble_eq_true rfl) (as77 _ _) ?_
    refine k_iincN (g := 1) (a := k) (L2 := [_, _, _, _, _, _, _]) eX12_shift_213 (Nat.le_of_ble_eq_true rfl) rfl rfl ?_
    refine k_goto 184 eX12_shift_216 (by decide) ?_
    have q := ih (k + 1) (by omega)
    rw [fillJ] at q
    rw [sj_sj, sj_at, show 60 * b + jj + k = b * 60 + jj + k by omega]
    exact q
set_option maxHeartbeats 400000 in
theorem pX12_shift {S : k_S} {kn : Nat} (hsh : mShOk S kn) (hkn50 : kn ≤ 50) (s i o j n : Int32) : Sp 2 0 0 MX12_shift [.ref 52, .int (s), .int (i), .int (o), .int (j), .int (n)] (hp S) (Rt (some (.int (aMShf S s i o j n))) (hp (mShf S s i o j n))) := by
  refine Sp_of (by decide +kernel) (Nat.le_of_ble_eq_true rfl) ?_
  show AW none MX12_shift 2 0 0 0 [.ref 52, .int (s), .int (i), .int (o), .int (j), .int (n), .null] [] (hp S) _
  refine k_iload_n eX12_shift_0 rfl ?_
  refine cS1 (M' := MX12_isShelf) eX12_shift_1 mX12_156 wX12_isShelf sX12_isShelf rfl (pX12_isShelf (s)) (by decide) (Nat.le_of_ble_eq_true rfl) ?_
  refine k_ifb_eq 14 eX12_shift_4 (by decide) (fun c_4 => ?_) (fun c_4 => ?_)
  · refine k_iconst (v := (-1)) eX12_shift_14 (by decide) ?_
    refine k_ireturn eX12_shift_15 rfl rfl ?_
    exact ⟨by rw [aMShf, if_pos (fun q => by first | exact c_4 q.1 | exact c_11 q.2)], by rw [mShf, if_pos (fun q => by first | exact c_4 q.1 | exact c_11 q.2)]⟩
  refine k_iload_n eX12_shift_7 rfl ?_
  refine cS1 (M' := MX12_isShelf) eX12_shift_8 mX12_156 wX12_isShelf sX12_isShelf rfl (pX12_isShelf (o)) (by decide) (Nat.le_of_ble_eq_true rfl) ?_
  refine k_ifb_ne 16 eX12_shift_11 (by decide) (fun c_11 => ?_) (fun c_11 => ?_)
  · obtain ⟨a, ha, rfl⟩ := pSh_ex c_4
    obtain ⟨b, hb, rfl⟩ := pSh_ex c_11
    have eA : aMShf S (nI a) i (nI b) j n = aMShN S a i b j n := by rw [aMShf, if_neg (not_not_intro ⟨c_4, c_11⟩), ix_nI (by omega), ix_nI (by omega)]
    have eS : mShf S (nI a) i (nI b) j n = mShN S a i b j n := by rw [mShf, if_neg (not_not_intro ⟨c_4, c_11⟩), ix_nI (by omega), ix_nI (by omega)]
    rw [eA, eS]
    refine k_aload_n eX12_shift_16 rfl ?_
    refine GX12_80 eX12_shift_17 rfl ?_
    refine k_iload_n eX12_shift_20 rfl ?_
    refine k_ialdN (j := a) eX12_shift_21 (ar74 _) (by omega) (Nat.le_of_ble_eq_true rfl) ?_
    refine k_iconst (v := (-1)) eX12_shift_22 (by decide) ?_
    refine k_icmp_eq 36 eX12_shift_23 (by decide) (fun c_23 => ?_) (fun c_23 => ?_)
    · refine k_bipush (v := (-11)) eX12_shift_36 (by decide) ?_
      refine k_ireturn eX12_shift_38 rfl rfl ?_
      exact ⟨by rw [aMShN, if_pos (by first | exact Or.inl c_23 | exact Or.inr c_33)], by rw [mShN, if_pos (by first | exact Or.inl c_23 | exact Or.inr c_33)]⟩
    refine k_aload_n eX12_shift_26 rfl ?_
    refine GX12_80 eX12_shift_27 rfl ?_
    refine k_iload_n eX12_shift_30 rfl ?_
    refine k_ialdN (j := b) eX12_shift_31 (ar74 _) (by omega) (Nat.le_of_ble_eq_true rfl) ?_
    refine k_iconst (v := (-1)) eX12_shift_32 (by decide) ?_
    refine k_icmp_ne 39 eX12_shift_33 (by decide) (fun c_33 => ?_) (fun c_33 => ?_)
    · refine k_aload_n eX12_shift_39 rfl ?_
      refine GX12_80 eX12_shift_40 rfl ?_
      refine k_iload_n eX12_shift_43 rfl ?_
      refine k_ialdN (j := a) eX12_shift_44 (ar74 _) (by omega) (Nat.le_of_ble_eq_true rfl) ?_
      refine k_bipush (v := (-2)) eX12_shift_45 (by decide) ?_
      refine k_icmp_ne 76 eX12_shift_47 (by decide) (fun c_47 => ?_) (fun c_47 => ?_)
      · refine k_bipush (v := (-12)) eX12_shift_76 (by decide) ?_
        refine k_ireturn eX12_shift_78 rfl rfl ?_
        exact ⟨by rw [aMShN, if_neg (fun q => q.elim c_23 c_33), if_pos (fun q => by first | exact c_47 q.1 | exact c_58 q.2.1 | exact c_73 q.2.2)], by rw [mShN, if_neg (fun q => q.elim c_23 c_33), if_pos (fun q => by first | exact c_47 q.1 | exact c_58 q.2.1 | exact c_73 q.2.2)]⟩
      refine k_aload_n eX12_shift_50 rfl ?_
      refine GX12_80 eX12_shift_51 rfl ?_
      refine k_iload_n eX12_shift_54 rfl ?_
      refine k_ialdN (j := b) eX12_shift_55 (ar74 _) (by omega) (Nat.le_of_ble_eq_true rfl) ?_
      refine k_bipush (v := (-2)) eX12_shift_56 (by decide) ?_
      refine k_icmp_ne 76 eX12_shift_58 (by decide) (fun c_58 => ?_) (fun c_58 => ?_)
      · refine k_bipush (v := (-12)) eX12_shift_76 (by decide) ?_
        refine k_ireturn eX12_shift_78 rfl rfl ?_
        exact ⟨by rw [aMShN, if_neg (fun q => q.elim c_23 c_33), if_pos (fun q => by first | exact c_47 q.1 | exact c_58 q.2.1 | exact c_73 q.2.2)], by rw [mShN, if_neg (fun q => q.elim c_23 c_33), if_pos (fun q => by first | exact c_47 q.1 | exact c_58 q.2.1 | exact c_73 q.2.2)]⟩
      refine k_aload_n eX12_shift_61 rfl ?_
      refine GX12_83 eX12_shift_62 rfl ?_
      refine k_iload_n eX12_shift_65 rfl ?_
      refine k_ialdN (j := a) eX12_shift_66 (ar75 _) (by omega) (Nat.le_of_ble_eq_true rfl) ?_
      refine k_aload_n eX12_shift_67 rfl ?_
      refine GX12_83 eX12_shift_68 rfl ?_
      refine k_iload_n eX12_shift_71 rfl ?_
      refine k_ialdN (j := b) eX12_shift_72 (ar75 _) (by omega) (Nat.le_of_ble_eq_true rfl) ?_
      refine k_icmp_eq 79 eX12_shift_73 (by decide) (fun c_73 => ?_) (fun c_73 => ?_)
      · refine k_iload eX12_shift_79 rfl ?_
        refine k_if_lt 141 eX12_shift_81 (by decide) (fun c_81 => ?_) (fun c_81 => ?_)
        · refine k_bipush (v := (-13)) eX12_shift_141 (by decide) ?_
          refine k_ireturn eX12_shift_143 rfl rfl ?_
          exact ⟨by rw [aMShN, if_neg (fun q => q.elim c_23 c_33), if_neg (not_not_intro ⟨c_47, c_58, c_73⟩), if_pos (fun q => by first | exact q.1 c_81 | exact q.2.1 c_85 | exact q.2.2.1 c_90 | exact absurd q.2.2.2.1 (Int32.not_le.mpr c_100) | exact absurd q.2.2.2.2.1 (Int32.not_le.mpr c_111) | exact absurd q.2.2.2.2.2.1 (Int32.not_le.mpr c_124) | exact c_138 q.2.2.2.2.2.2)], by rw [mShN, if_neg (fun q => q.elim c_23 c_33), if_neg (not_not_intro ⟨c_47, c_58, c_73⟩), if_pos (fun q => by first | exact q.1 c_81 | exact q.2.1 c_85 | exact q.2.2.1 c_90 | exact absurd q.2.2.2.1 (Int32.not_le.mpr c_100) | exact absurd q.2.2.2.2.1 (Int32.not_le.mpr c_111) | exact absurd q.2.2.2.2.2.1 (Int32.not_le.mpr c_124) | exact c_138 q.2.2.2.2.2.2)]⟩
        refine k_iload_n eX12_shift_84 rfl ?_
        refine k_if_lt 141 eX12_shift_85 (by decide) (fun c_85 => ?_) (fun c_85 => ?_)
        · refine k_bipush (v := (-13)) eX12_shift_141 (by decide) ?_
          refine k_ireturn eX12_shift_143 rfl rfl ?_
          exact ⟨by rw [aMShN, if_neg (fun q => q.elim c_23 c_33), if_neg (not_not_intro ⟨c_47, c_58, c_73⟩), if_pos (fun q => by first | exact q.1 c_81 | exact q.2.1 c_85 | exact q.2.2.1 c_90 | exact absurd q.2.2.2.1 (Int32.not_le.mpr c_100) | exact absurd q.2.2.2.2.1 (Int32.not_le.mpr c_111) | exact absurd q.2.2.2.2.2.1 (Int32.not_le.mpr c_124) | exact c_138 q.2.2.2.2.2.2)], by rw [mShN, if_neg (fun q => q.elim c_23 c_33), if_neg (not_not_intro ⟨c_47, c_58, c_73⟩), if_pos (fun q => by first | exact q.1 c_81 | exact q.2.1 c_85 | exact q.2.2.1 c_90 | exact absurd q.2.2.2.1 (Int32.not_le.mpr c_100) | exact absurd q.2.2.2.2.1 (Int32.not_le.mpr c_111) | exact absurd q.2.2.2.2.2.1 (Int32.not_le.mpr c_124) | exact c_138 q.2.2.2.2.2.2)]⟩
        refine k_iload eX12_shift_88 rfl ?_
        refine k_if_lt 141 eX12_shift_90 (by decide) (fun c_90 => ?_) (fun c_90 => ?_)
        · refine k_bipush (v := (-13)) eX12_shift_141 (by decide) ?_
          refine k_ireturn eX12_shift_143 rfl rfl ?_
          exact ⟨by rw [aMShN, if_neg (fun q => q.elim c_23 c_33), if_neg (not_not_intro ⟨c_47, c_58, c_73⟩), if_pos (fun q => by first | exact q.1 c_81 | exact q.2.1 c_85 | exact q.2.2.1 c_90 | exact absurd q.2.2.2.1 (Int32.not_le.mpr c_100) | exact absurd q.2.2.2.2.1 (Int32.not_le.mpr c_111) | exact absurd q.2.2.2.2.2.1 (Int32.not_le.mpr c_124) | exact c_138 q.2.2.2.2.2.2)], by rw [mShN, if_neg (fun q => q.elim c_23 c_33), if_neg (not_not_intro ⟨c_47, c_58, c_73⟩), if_pos (fun q => by first | exact q.1 c_81 | exact q.2.1 c_85 | exact q.2.2.1 c_90 | exact absurd q.2.2.2.1 (Int32.not_le.mpr c_100) | exact absurd q.2.2.2.2.1 (Int32.not_le.mpr c_111) | exact absurd q.2.2.2.2.2.1 (Int32.not_le.mpr c_124) | exact c_138 q.2.2.2.2.2.2)]⟩
        refine k_iload_n eX12_shift_93 rfl ?_
        refine k_aload_n eX12_shift_94 rfl ?_
        refine GX12_86 eX12_shift_95 rfl ?_
        refine k_iload_n eX12_shift_98 rfl ?_
        refine k_ialdN (j := a) eX12_shift_99 (ar76 _) (by omega) (Nat.le_of_ble_eq_true rfl) ?_
        refine k_icmp_gt 141 eX12_shift_100 (by decide) (fun c_100 => ?_) (fun c_100 => ?_)
        · refine k_bipush (v := (-13)) eX12_shift_141 (by decide) ?_
          refine k_ireturn eX12_shift_143 rfl rfl ?_
          exact ⟨by rw [aMShN, if_neg (fun q => q.elim c_23 c_33), if_neg (not_not_intro ⟨c_47, c_58, c_73⟩), if_pos (fun q => by first | exact q.1 c_81 | exact q.2.1 c_85 | exact q.2.2.1 c_90 | exact absurd q.2.2.2.1 (Int32.not_le.mpr c_100) | exact absurd q.2.2.2.2.1 (Int32.not_le.mpr c_111) | exact absurd q.2.2.2.2.2.1 (Int32.not_le.mpr c_124) | exact c_138 q.2.2.2.2.2.2)], by rw [mShN, if_neg (fun q => q.elim c_23 c_33), if_neg (not_not_intro ⟨c_47, c_58, c_73⟩), if_pos (fun q => by first | exact q.1 c_81 | exact q.2.1 c_85 | exact q.2.2.1 c_90 | exact absurd q.2.2.2.1 (Int32.not_le.mpr c_100) | exact absurd q.2.2.2.2.1 (Int32.not_le.mpr c_111) | exact absurd q.2.2.2.2.2.1 (Int32.not_le.mpr c_124) | exact c_138 q.2.2.2.2.2.2)]⟩
        refine k_iload eX12_shift_103 rfl ?_
        refine k_aload_n eX12_shift_105 rfl ?_
        refine GX12_86 eX12_shift_106 rfl ?_
        refine k_iload_n eX12_shift_109 rfl ?_
        refine k_ialdN (j := b) eX12_shift_110 (ar76 _) (by omega) (Nat.le_of_ble_eq_true rfl) ?_
        refine k_icmp_gt 141 eX12_shift_111 (by decide) (fun c_111 => ?_) (fun c_111 => ?_)
        · refine k_bipush (v := (-13)) eX12_shift_141 (by decide) ?_
          refine k_ireturn eX12_shift_143 rfl rfl ?_
          exact ⟨by rw [aMShN, if_neg (fun q => q.elim c_23 c_33), if_neg (not_not_intro ⟨c_47, c_58, c_73⟩), if_pos (fun q => by first | exact q.1 c_81 | exact q.2.1 c_85 | exact q.2.2.1 c_90 | exact absurd q.2.2.2.1 (Int32.not_le.mpr c_100) | exact absurd q.2.2.2.2.1 (Int32.not_le.mpr c_111) | exact absurd q.2.2.2.2.2.1 (Int32.not_le.mpr c_124) | exact c_138 q.2.2.2.2.2.2)], by rw [mShN, if_neg (fun q => q.elim c_23 c_33), if_neg (not_not_intro ⟨c_47, c_58, c_73⟩), if_pos (fun q => by first | exact q.1 c_81 | exact q.2.1 c_85 | exact q.2.2.1 c_90 | exact absurd q.2.2.2.1 (Int32.not_le.mpr c_100) | exact absurd q.2.2.2.2.1 (Int32.not_le.mpr c_111) | exact absurd q.2.2.2.2.2.1 (Int32.not_le.mpr c_124) | exact c_138 q.2.2.2.2.2.2)]⟩
        refine k_iload eX12_shift_114 rfl ?_
        refine k_aload_n eX12_shift_116 rfl ?_
        refine GX12_86 eX12_shift_117 rfl ?_
        refine k_iload_n eX12_shift_120 rfl ?_
        refine k_ialdN (j := a) eX12_shift_121 (ar76 _) (by omega) (Nat.le_of_ble_eq_true rfl) ?_
        refine k_iload_n eX12_shift_122 rfl ?_
        refine k_isub eX12_shift_123 ?_
        refine k_icmp_gt 141 eX12_shift_124 (by decide) (fun c_124 => ?_) (fun c_124 => ?_)
        · refine k_bipush (v := (-13)) eX12_shift_141 (by decide) ?_
          refine k_ireturn eX12_shift_143 rfl rfl ?_
          exact ⟨by rw [aMShN, if_neg (fun q => q.elim c_23 c_33), if_neg (not_not_intro ⟨c_47, c_58, c_73⟩), if_pos (fun q => by first | exact q.1 c_81 | exact q.2.1 c_85 | exact q.2.2.1 c_90 | exact absurd q.2.2.2.1 (Int32.not_le.mpr c_100) | exact absurd q.2.2.2.2.1 (Int32.not_le.mpr c_111) | exact absurd q.2.2.2.2.2.1 (Int32.not_le.mpr c_124) | exact c_138 q.2.2.2.2.2.2)], by rw [mShN, if_neg (fun q => q.elim c_23 c_33), if_neg (not_not_intro ⟨c_47, c_58, c_73⟩), if_pos (fun q => by first | exact q.1 c_81 | exact q.2.1 c_85 | exact q.2.2.1 c_90 | exact absurd q.2.2.2.1 (Int32.not_le.mpr c_100) | exact absurd q.2.2.2.2.1 (Int32.not_le.mpr c_111) | exact absurd q.2.2.2.2.2.1 (Int32.not_le.mpr c_124) | exact c_138 q.2.2.2.2.2.2)]⟩
        refine k_iload eX12_shift_127 rfl ?_
        refine k_aload_n eX12_shift_129 rfl ?_
        refine GX12_86 eX12_shift_130 rfl ?_
        refine k_iload_n eX12_shift_133 rfl ?_
        refine k_ialdN (j := b) eX12_shift_134 (ar76 _) (by omega) (Nat.le_of_ble_eq_true rfl) ?_
        refine k_iload eX12_shift_135 rfl ?_
        refine k_isub eX12_shift_137 ?_
        refine k_icmp_le 144 eX12_shift_138 (by decide) (fun c_138 => ?_) (fun c_138 => ?_)
        · have hP : pMStr S a i b j n := ⟨c_81, c_85, c_90, Int32.not_lt.mp c_100, Int32.not_lt.mp c_111, Int32.not_lt.mp c_124, c_138⟩
          obtain ⟨sa1, la, _, hla, _, ela⟩ := msh_len hsh hkn50 ha c_47
          obtain ⟨sb, lb, _, hlb, _, elb⟩ := msh_len hsh hkn50 hb c_58
          obtain ⟨u, m, rfl, rfl, hum⟩ := str_ex ela hla ⟨Int32.not_lt.mp c_85, Int32.not_lt.mp c_81, Int32.not_lt.mp c_100, Int32.not_lt.mp c_124⟩
          obtain ⟨w, m2, rfl, em, hwm⟩ := str_ex elb hlb ⟨Int32.not_lt.mp c_90, Int32.not_lt.mp c_81, Int32.not_lt.mp c_111, c_138⟩
          have emm : m = m2 := by
            have q := congrArg Int32.toInt em
            rw [nI_toInt (by omega), nI_toInt (by omega)] at q
            omega
          subst emm
          refine k_iconst (v := nI 0) eX12_shift_144 (by decide) ?_
          refine k_istore (L2 := [_, _, _, _, _, _, _]) eX12_shift_145 (Nat.le_of_ble_eq_true rfl) rfl ?_
          refine k_heap (h2 := hp (sj S 86 (mmA S a u 0))) (by rw [mmA, fillJ, sj_self]) ?_
          refine lX12_shifta (by decide) ha hb (by omega) (by omega) ?_ m 0 (by omega)
          refine k_iconst (v := nI 0) eX12_shift_181 (by decide) ?_
          refine k_istore (L2 := [_, _, _, _, _, _, _]) eX12_shift_182 (Nat.le_of_ble_eq_true rfl) rfl ?_
          obtain ⟨T, hT⟩ : ∃ T, sj S 86 (mmA S a u m) = T := ⟨_, rfl⟩
          have h86 : T.2.2 86 = mmA S a u m := by rw [← hT]; rfl
          have h77 : T.2.2 77 = S.2.2 77 := by rw [← hT]; rfl
          rw [hT]
          refine k_heap (h2 := hp (sj T 77 (fillJ (T.2.2 86) (b * 60 + w) (T.2.2 77) 0))) (by rw [fillJ, sj_self]) ?_
          refine lX12_shiftb (a := a) (i := u) (by decide) hb (by omega) (by omega) ?_ m 0 (by omega)
          refine k_iload eX12_shift_219 rfl ?_
          refine k_ireturn eX12_shift_221 rfl rfl ?_
          exact ⟨by rw [aMShN, if_neg (fun q => q.elim c_23 c_33), if_neg (not_not_intro ⟨c_47, c_58, c_73⟩), if_neg (not_not_intro hP)], by rw [mShN, if_neg (fun q => q.elim c_23 c_33), if_neg (not_not_intro ⟨c_47, c_58, c_73⟩), if_neg (not_not_intro hP), ix_nI (by omega), ix_nI (by omega), ix_nI (by omega), mmS, hT, h86, h77]⟩
        refine k_bipush (v := (-13)) eX12_shift_141 (by decide) ?_
        refine k_ireturn eX12_shift_143 rfl rfl ?_
        exact ⟨by rw [aMShN, if_neg (fun q => q.elim c_23 c_33), if_neg (not_not_intro ⟨c_47, c_58, c_73⟩), if_pos (fun q => by first | exact q.1 c_81 | exact q.2.1 c_85 | exact q.2.2.1 c_90 | exact absurd q.2.2.2.1 (Int32.not_le.mpr c_100) | exact absurd q.2.2.2.2.1 (Int32.not_le.mpr c_111) | exact absurd q.2.2.2.2.2.1 (Int32.not_le.mpr c_124) | exact c_138 q.2.2.2.2.2.2)], by rw [mShN, if_neg (fun q => q.elim c_23 c_33), if_neg (not_not_intro ⟨c_47, c_58, c_73⟩), if_pos (fun q => by first | exact q.1 c_81 | exact q.2.1 c_85 | exact q.2.2.1 c_90 | exact absurd q.2.2.2.1 (Int32.not_le.mpr c_100) | exact absurd q.2.2.2.2.1 (Int32.not_le.mpr c_111) | exact absurd q.2.2.2.2.2.1 (Int32.not_le.mpr c_124) | exact c_138 q.2.2.2.2.2.2)]⟩
      refine k_bipush (v := (-12)) eX12_shift_76 (by decide) ?_
      refine k_ireturn eX12_shift_78 rfl rfl ?_
      exact ⟨by rw [aMShN, if_neg (fun q => q.elim c_23 c_33), if_pos (fun q => by first | exact c_47 q.1 | exact c_58 q.2.1 | exact c_73 q.2.2)], by rw [mShN, if_neg (fun q => q.elim c_23 c_33), if_pos (fun q => by first | exact c_47 q.1 | exact c_58 q.2.1 | exact c_73 q.2.2)]⟩
    refine k_bipush (v := (-11)) eX12_shift_36 (by decide) ?_
    refine k_ireturn eX12_shift_38 rfl rfl ?_
    exact ⟨by rw [aMShN, if_pos (by first | exact Or.inl c_23 | exact Or.inr c_33)], by rw [mShN, if_pos (by first | exact Or.inl c_23 | exact Or.inr c_33)]⟩
  refine k_iconst (v := (-1)) eX12_shift_14 (by decide) ?_
  refine k_ireturn eX12_shift_15 rfl rfl ?_
  exact ⟨by rw [aMShf, if_pos (fun q => by first | exact c_4 q.1 | exact c_11 q.2)], by rw [mShf, if_pos (fun q => by first | exact c_4 q.1 | exact c_11 q.2)]⟩
