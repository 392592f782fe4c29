theorem FltP_neg {t : Nat → Int32} {n : Nat} {f : Int32} {S : k_S} (h : FltP t n f S) (hn : n ≤ 120) (hf : f < 0) : ∃ n1, S.1 51 = nI n1 ∧ n1 ≤ 240 := by
  rcases h with ⟨j, st, h1, _, _, rfl⟩ | ⟨st, _, _, rfl⟩ | ⟨st, h1, _, _, _, h5, _⟩
  · exact absurd hf (nI_pos (by omega))
  · exact absurd hf (nI_pos (by omega))
  · have h2 := (crn_ok _ _ _ h1).1
    have h3 := ew_len 1 st.2.1 st.1
    exact ⟨_, h5, by omega⟩
abbrev pTxt (x : Int32) : Prop := pIn x (nI 1) (nI 3)
/-- what text leaves and answers -/
def TxtQ (S : k_S) (n : Nat) (x v : Int32) (U : k_S) : Prop :=
  (¬ pTxt x ∧ v = -1 ∧ U = S) ∨ (pTxt x ∧ ∃ f T, FrR S T ∧ FltP (S.2.1 12) n f T ∧ ((¬ f < 0 ∧ v = -100 - f ∧ U = si T 11 (nI 0)) ∨ (f < 0 ∧ v = 1 ∧ ∃ n1, T.1 51 = nI n1 ∧ n1 ≤ 240 ∧ U = (if x = nI 1 then bcS39 (si T 11 (nI 0)) n1 else if x = nI 2 then bcS42 (si T 11 (nI 0)) n1 else bcS45 (si T 11 (nI 0)) n1))))
set_option maxHeartbeats 400000 in
theorem pX11_text {S : k_S} {tp : Nat} (htp : S.1 11 = nI tp) (htp120 : tp ≤ 120) (x : Int32) : Sp 6 0 0 MX11_text [.ref 0, .int (x)] (hp S) (fun r h' => ∃ v U, r = some (.int v) ∧ h' = hp U ∧ TxtQ S tp x v U) := by
  refine Sp_of (by decide +kernel) (Nat.le_of_ble_eq_true rfl) ?_
  show AW none MX11_text 6 0 0 0 [.ref 0, .int (x), .null] [] (hp S) _
  refine k_iload_n eX11_text_0 rfl ?_
  refine k_iconst (v := nI 1) eX11_text_1 (by decide) ?_
  refine k_iconst (v := nI 3) eX11_text_2 (by decide) ?_
  refine cS1 (M' := MX11_within) eX11_text_3 mX11_114 wX11_within sX11_within rfl (pX11_within (x) (nI 1) (nI 3)) (by decide) (Nat.le_of_ble_eq_true rfl) ?_
  refine k_ifb_ne 11 eX11_text_6 (by decide) (fun c_6 => ?_) (fun c_6 => ?_)
  · refine k_aload_n eX11_text_11 rfl ?_
    refine GX11_10 eX11_text_12 rfl ?_
    refine k_aload_n eX11_text_15 rfl ?_
    refine GX11_30 eX11_text_16 rfl ?_
    refine k_aload_n eX11_text_19 rfl ?_
    refine GX11_34 eX11_text_20 rfl ?_
    refine k_topi (nI tp) htp ?_
    refine cVE1 (M' := MX6_faultOf) eX11_text_23 mX11_215 wX6_faultOf vX6_faultOf ⟨_, _, _, rfl, rfl, rfl⟩ rfl (pX6_faultOf (S := S) (n0 := tp) htp120) (by decide) (Nat.le_of_ble_eq_true rfl) ?_
    rintro f T ⟨f1, hf⟩
    refine k_istore_n (L2 := [_, _, _]) eX11_text_26 (Nat.le_of_ble_eq_true rfl) rfl ?_
    refine k_aload_n eX11_text_27 rfl ?_
    refine k_iconst (v := nI 0) eX11_text_28 (by decide) ?_
    refine PX11_34 eX11_text_29 rfl ?_
    refine k_iload_n eX11_text_32 rfl ?_
    refine k_if_lt 41 eX11_text_33 (by decide) (fun c_33 => ?_) (fun c_33 => ?_)
    · obtain ⟨n1, hn1, hn1b⟩ := FltP_neg hf htp120 c_33
      refine k_iload_n eX11_text_41 rfl ?_
      refine k_iconst (v := nI 1) eX11_text_42 (by decide) ?_
      refine k_icmp_ne 63 eX11_text_43 (by decide) (fun c_43 => ?_) (fun c_43 => ?_)
      · refine k_iload_n eX11_text_63 rfl ?_
        refine k_iconst (v := nI 2) eX11_text_64 (by decide) ?_
        refine k_icmp_ne 85 eX11_text_65 (by decide) (fun c_65 => ?_) (fun c_65 => ?_)
        · refine k_aload_n eX11_text_85 rfl ?_
          refine GX11_101 eX11_text_86 rfl ?_
          refine GX11_232 eX11_text_89 rfl ?_
          refine k_aload_n eX11_text_92 rfl ?_
          refine GX11_10 eX11_text_93 rfl ?_
          refine cV0 (M' := MX9_become) eX11_text_96 mX11_223 wX9_become vX9_become ⟨_, _, _, rfl, rfl, rfl⟩ rfl (pX9_become45 (S := (si T 11 (nI 0))) (n0 := n1) hn1 hn1b) (by decide) (Nat.le_of_ble_eq_true rfl) ?_
          refine k_iconst (v := nI 1) eX11_text_99 (by decide) ?_
          refine k_ireturn eX11_text_100 rfl rfl ?_
          exact ⟨_, _, rfl, rfl, Or.inr ⟨c_6, f, T, f1, hf, Or.inr ⟨c_33, rfl, n1, hn1, hn1b, by rw [if_neg c_43, if_neg c_65]⟩⟩⟩
        refine k_aload_n eX11_text_68 rfl ?_
        refine GX11_101 eX11_text_69 rfl ?_
        refine GX11_229 eX11_text_72 rfl ?_
        refine k_aload_n eX11_text_75 rfl ?_
        refine GX11_10 eX11_text_76 rfl ?_
        refine cV0 (M' := MX9_become) eX11_text_79 mX11_223 wX9_become vX9_become ⟨_, _, _, rfl, rfl, rfl⟩ rfl (pX9_become42 (S := (si T 11 (nI 0))) (n0 := n1) hn1 hn1b) (by decide) (Nat.le_of_ble_eq_true rfl) ?_
        refine k_goto 99 eX11_text_82 (by decide) ?_
        refine k_iconst (v := nI 1) eX11_text_99 (by decide) ?_
        refine k_ireturn eX11_text_100 rfl rfl ?_
        exact ⟨_, _, rfl, rfl, Or.inr ⟨c_6, f, T, f1, hf, Or.inr ⟨c_33, rfl, n1, hn1, hn1b, by rw [if_neg c_43, if_pos c_65]⟩⟩⟩
      refine k_aload_n eX11_text_46 rfl ?_
      refine GX11_101 eX11_text_47 rfl ?_
      refine GX11_219 eX11_text_50 rfl ?_
      refine k_aload_n eX11_text_53 rfl ?_
      refine GX11_10 eX11_text_54 rfl ?_
      refine cV0 (M' := MX9_become) eX11_text_57 mX11_223 wX9_become vX9_become ⟨_, _, _, rfl, rfl, rfl⟩ rfl (pX9_become39 (S := (si T 11 (nI 0))) (n0 := n1) hn1 hn1b) (by decide) (Nat.le_of_ble_eq_true rfl) ?_
      refine k_goto 99 eX11_text_60 (by decide) ?_
      refine k_iconst (v := nI 1) eX11_text_99 (by decide) ?_
      refine k_ireturn eX11_text_100 rfl rfl ?_
      exact ⟨_, _, rfl, rfl, Or.inr ⟨c_6, f, T, f1, hf, Or.inr ⟨c_33, rfl, n1, hn1, hn1b, by rw [if_pos c_43]⟩⟩⟩
    refine k_bipush (v := (-100)) eX11_text_36 (by decide) ?_
    refine k_iload_n eX11_text_38 rfl ?_
    refine k_isub eX11_text_39 ?_
    refine k_ireturn eX11_text_40 rfl rfl ?_
    exact ⟨_, _, rfl, rfl, Or.inr ⟨c_6, f, T, f1, hf, Or.inl ⟨c_33, rfl, rfl⟩⟩⟩
  refine k_iconst (v := (-1)) eX11_text_9 (by decide) ?_
  refine k_ireturn eX11_text_10 rfl rfl ?_
  exact ⟨_, S, rfl, rfl, Or.inl ⟨c_6, rfl, rfl⟩⟩
/-- so many from the first on that go -/
def ldN (g : Nat → Prop) [DecidablePred g] : Nat → Nat → Nat
  | 0, j => j
  | k + 1, j => if g j then ldN g k (j + 1) else j
def plc (i : Int32) (j : Nat) : Int32 := if i < 0 then -1 else i + nI j
def wkE (S : k_S) (u : Nat) (i : Int32) (j : Nat) : Int64 := S.2.2 10 (u * 60 + ix (plc i j))
abbrev wkG (S : k_S) (u d : Nat) (i : Int32) (m j : Nat) : Prop := j < m ∧ d + j < 120 ∧ (0 ≤ S.2.1 8 u ∧ 0 ≤ plc i j ∧ plc i j < S.2.1 9 u) ∧ ¬ lg_cmp (wkE S u i j) 0 < 0 ∧ pW (S.1 803) (wkE S u i j).toInt32
def wkP (p : Nat → Int32) (d : Nat) (e : Nat → Int64) : Nat → Nat → Int32
  | 0 => p
  | j + 1 => va_up (wkP p d e j) (d + j) (e j).toInt32
theorem ShOk.pl {S : k_S} {kn u : Nat} {x : Int32} (h : ShOk S kn) (hu : u < 6) (c : 0 ≤ S.2.1 8 u ∧ 0 ≤ x ∧ x < S.2.1 9 u) : ∃ p, p < 60 ∧ x = nI p := by
  rcases h u hu with q | ⟨q, _⟩ | ⟨s, l, h1, h2, q1, q2⟩
  · rw [q] at c; exact absurd c.1 (by decide)
  · rw [q] at c; exact absurd c.1 (by decide)
  · obtain ⟨p, h3, h4⟩ := k_rng c.2.1 (by rw [← q2]; exact c.2.2) (by omega)
    exact ⟨p, by omega, h4⟩
abbrev pWks (d s n : Int32) : Prop := pD d ∧ pSh s ∧ pIn n (nI 1) (nI 60)
def wkcN (S : k_S) (d s i n : Int32) : Nat := ldN (wkG (clS S) (ix s) (ix d) i (ix n)) (ix n) 0
def aWks (S : k_S) (d s i n : Int32) : Int32 := if pWks d s n then (if ¬ S.2.1 8 (ix s) = -2 ∧ ¬ S.2.1 8 (ix s) = nI 0 then -12 else nI (wkcN S d s i n)) else -1
def sWks (S : k_S) (d s i n : Int32) : k_S := if pWks d s n then (if ¬ S.2.1 8 (ix s) = -2 ∧ ¬ S.2.1 8 (ix s) = nI 0 then S else sa (clS S) 25 (wkP (S.2.1 25) (ix d) (wkE (clS S) (ix s) i) (wkcN S d s i n))) else S
set_option maxHeartbeats 400000 in
theorem lX11_weeks {d : Nat} (hdd : 3 ≤ d) {C : k_S} {p : Nat → Int32} {kn : Nat} (hsh : ShOk C kn) {d0 u m : Nat} (hd0 : d0 < 120) (hu : u < 6) (hm : m ≤ 60) (i : Int32) : ∀ (k j : Nat), j + k = m → AW none MX11_weeks d 0 0 56 [.ref 0, .int (nI d0), .int (nI u), .int (i), .int (nI m), .int (nI j), .null, .null, .null] [] (hp (sa C 25 (wkP p d0 (wkE C u i) j))) (Rt (some (.int (nI (ldN (wkG C u d0 i m) k j)))) (hp (sa C 25 (wkP p d0 (wkE C u i) (ldN (wkG C u d0 i m) k j))))) := by
  intro k
  induction k with
  | zero =>
    intro j hj
    obtain rfl : m = j := by omega
    refine k_iload eX11_weeks_56 rfl ?_
    refine k_iload eX11_weeks_58 rfl ?_
    refine k_icmp_geN 157 eX11_weeks_60 (by decide) (by omega) (by omega) (fun c_60 => ?_) (fun c_60 => by exfalso; omega)
    refine k_iload eX11_weeks_157 rfl ?_
    refine k_ireturn eX11_weeks_159 rfl rfl ?_
    exact ⟨rfl, rfl⟩
  | succ k ih =>
    intro j hj
    refine k_iload eX11_weeks_56 rfl ?_
    refine k_iload eX11_weeks_58 rfl ?_
    refine k_icmp_geN 157 eX11_weeks_60 (by decide) (by omega) (by omega) (fun c_60 => by exfalso; omega) (fun c_60 => ?_)
    refine k_iload_n eX11_weeks_63 rfl ?_
    refine k_iload eX11_weeks_64 rfl ?_
    refine k_iaddN eX11_weeks_66 ?_
    refine k_bipush (v := nI 120) eX11_weeks_67 (by decide) ?_
    refine k_icmp_geN 157 eX11_weeks_69 (by decide) (by omega) (by omega) (fun c_69 => ?_) (fun c_69 => ?_)
    · refine k_iload eX11_weeks_157 rfl ?_
      refine k_ireturn eX11_weeks_159 rfl rfl ?_
      have eL : ldN (wkG C u d0 i m) (k + 1) j = j := by rw [ldN, if_neg (fun q : wkG C u d0 i m j => by first | exact absurd q.2.1 (by omega) | exact c_96 q.2.2.1 | exact q.2.2.2.1 c_118 | exact c_131 q.2.2.2.2)]
      rw [eL]
      exact ⟨rfl, rfl⟩
    refine k_iload_n eX11_weeks_72 rfl ?_
    refine k_if_ge 80 eX11_weeks_73 (by decide) (fun c_73 => ?_) (fun c_73 => ?_)
    · refine k_iload_n eX11_weeks_80 rfl ?_
      refine k_iload eX11_weeks_81 rfl ?_
      refine k_iadd eX11_weeks_83 ?_
      refine k_istore (L2 := [_, _, _, _, _, _, _, _, _]) eX11_weeks_84 (Nat.le_of_ble_eq_true rfl) rfl ?_
      refine k_loc (L2 := [_, _, _, _, _, _, .int (plc i j), _, _]) (by first | rw [plc, if_pos (Int32.not_le.mp c_73)] | rw [plc, if_neg (Int32.not_lt.mpr c_73)]) ?_
      refine k_aload_n eX11_weeks_86 rfl ?_
      refine GX11_26 eX11_weeks_87 rfl ?_
      refine k_iload_n eX11_weeks_90 rfl ?_
      refine k_iload eX11_weeks_91 rfl ?_
      refine cV1 (M' := MX7_isPlace) eX11_weeks_93 mX11_135 wX7_isPlace vX7_isPlace ⟨_, _, _, rfl, rfl, rfl⟩ rfl (pX7_isPlace (S := (sa C 25 (wkP p d0 (wkE C u i) j))) (j := u) (by omega) ((plc i j))) (by omega) (Nat.le_of_ble_eq_true rfl) ?_
      refine k_ifb_ne 102 eX11_weeks_96 (by decide) (fun c_96 => ?_) (fun c_96 => ?_)
      · obtain ⟨q, hq60, eq6⟩ := hsh.pl hu c_96
        have eqE : wkE C u i j = C.2.2 10 (u * 60 + q) := by rw [wkE, eq6, ix_nI (by omega)]
        refine k_loc (L2 := [_, _, _, _, _, _, .int (nI q), _, _]) (by rw [eq6]) ?_
        refine k_aload_n eX11_weeks_102 rfl ?_
        refine GX11_26 eX11_weeks_103 rfl ?_
        refine k_iload_n eX11_weeks_106 rfl ?_
        refine k_iload eX11_weeks_107 rfl ?_
        refine cV1 (M' := MX7_elementAt) eX11_weeks_109 mX11_138 wX7_elementAt vX7_elementAt ⟨_, _, _, rfl, rfl, rfl⟩ rfl (pX7_elementAt (S := (sa C 25 (wkP p d0 (wkE C u i) j))) (j := u) (i := q) (by omega) (by omega)) (by omega) (Nat.le_of_ble_eq_true rfl) ?_
        refine k_topl ((wkE C u i j)) eqE.symm ?_
        refine k_lstore (L2 := [_, _, _, _, _, _, _, _, _]) eX11_weeks_112 (Nat.le_of_ble_eq_true rfl) rfl ?_
        refine k_lload eX11_weeks_114 rfl ?_
        refine k_lconst (v := 0) eX11_weeks_116 rfl ?_
        refine k_lcmp eX11_weeks_117 ?_
        refine k_if_lt 157 eX11_weeks_118 (by decide) (fun c_118 => ?_) (fun c_118 => ?_)
        · refine k_iload eX11_weeks_157 rfl ?_
          refine k_ireturn eX11_weeks_159 rfl rfl ?_
          have eL : ldN (wkG C u d0 i m) (k + 1) j = j := by rw [ldN, if_neg (fun q : wkG C u d0 i m j => by first | exact absurd q.2.1 (by omega) | exact c_96 q.2.2.1 | exact q.2.2.2.1 c_118 | exact c_131 q.2.2.2.2)]
          rw [eL]
          exact ⟨rfl, rfl⟩
        refine k_aload_n eX11_weeks_121 rfl ?_
        refine GX11_67 eX11_weeks_122 rfl ?_
        refine k_lload eX11_weeks_125 rfl ?_
        refine k_l2i eX11_weeks_127 ?_
        refine cV1 (M' := MX10_has) eX11_weeks_128 mX11_110 wX10_has vX10_has ⟨_, _, _, rfl, rfl, rfl⟩ rfl (pX10_has (S := (sa C 25 (wkP p d0 (wkE C u i) j))) (((wkE C u i j)).toInt32)) (by omega) (Nat.le_of_ble_eq_true rfl) ?_
        refine k_ifb_ne 137 eX11_weeks_131 (by decide) (fun c_131 => ?_) (fun c_131 => ?_)
        · refine k_aload_n eX11_weeks_137 rfl ?_
          refine GX11_75 eX11_weeks_138 rfl ?_
          refine k_iload_n eX11_weeks_141 rfl ?_
          refine k_iload eX11_weeks_142 rfl ?_
          refine k_iaddN eX11_weeks_144 ?_
          refine k_lload eX11_weeks_145 rfl ?_
          refine k_l2i eX11_weeks_147 ?_
          refine cV0 (M' := MX2_set) eX11_weeks_148 mX11_142 wX2_set vX2_set ⟨_, _, _, rfl, rfl, rfl⟩ rfl (pX2_set (S := (sa C 25 (wkP p d0 (wkE C u i) j))) (j := (d0 + j)) (((wkE C u i j)).toInt32) (by omega)) (by omega) (Nat.le_of_ble_eq_true rfl) ?_
          refine k_iincN (g := 1) (a := j) (L2 := [_, _, _, _, _, _, _, _, _]) eX11_weeks_151 (Nat.le_of_ble_eq_true rfl) rfl rfl ?_
          refine k_goto 56 eX11_weeks_154 (by decide) ?_
          have hg : wkG C u d0 i m j := ⟨by omega, by omega, c_96, c_118, c_131⟩
          have eL : ldN (wkG C u d0 i m) (k + 1) j = ldN (wkG C u d0 i m) k (j + 1) := by rw [ldN, if_pos hg]
          rw [eL]
          refine k_forget 6 (L2 := [_, _, _, _, _, _, _, _, _]) rfl ?_
          refine k_forget 7 (L2 := [_, _, _, _, _, _, _, _, _]) rfl ?_
          rw [sa_sa]
          exact ih (j + 1) (by omega)
        refine k_goto 157 eX11_weeks_134 (by decide) ?_
        refine k_iload eX11_weeks_157 rfl ?_
        refine k_ireturn eX11_weeks_159 rfl rfl ?_
        have eL : ldN (wkG C u d0 i m) (k + 1) j = j := by rw [ldN, if_neg (fun q : wkG C u d0 i m j => by first | exact absurd q.2.1 (by omega) | exact c_96 q.2.2.1 | exact q.2.2.2.1 c_118 | exact c_131 q.2.2.2.2)]
        rw [eL]
        exact ⟨rfl, rfl⟩
      refine k_goto 157 eX11_weeks_99 (by decide) ?_
      refine k_iload eX11_weeks_157 rfl ?_
      refine k_ireturn eX11_weeks_159 rfl rfl ?_
      have eL : ldN (wkG C u d0 i m) (k + 1) j = j := by rw [ldN, if_neg (fun q : wkG C u d0 i m j => by first | exact absurd q.2.1 (by omega) | exact c_96 q.2.2.1 | exact q.2.2.2.1 c_118 | exact c_131 q.2.2.2.2)]
      rw [eL]
      exact ⟨rfl, rfl⟩
    refine k_iconst (v := (-1)) eX11_weeks_76 (by decide) ?_
    refine k_goto 84 eX11_weeks_77 (by decide) ?_
    refine k_istore (L2 := [_, _, _, _, _, _, _, _, _]) eX11_weeks_84 (Nat.le_of_ble_eq_true rfl) rfl ?_
    refine k_loc (L2 := [_, _, _, _, _, _, .int (plc i j), _, _]) (by first | rw [plc, if_pos (Int32.not_le.mp c_73)] | rw [plc, if_neg (Int32.not_lt.mpr c_73)]) ?_
    refine k_aload_n eX11_weeks_86 rfl ?_
    refine GX11_26 eX11_weeks_87 rfl ?_
    refine k_iload_n eX11_weeks_90 rfl ?_
    refine k_iload eX11_weeks_91 rfl ?_
    refine cV1 (M' := MX7_isPlace) eX11_weeks_93 mX11_135 wX7_isPlace vX7_isPlace ⟨_, _, _, rfl, rfl, rfl⟩ rfl (pX7_isPlace (S := (sa C 25 (wkP p d0 (wkE C u i) j))) (j := u) (by omega) ((plc i j))) (by omega) (Nat.le_of_ble_eq_true rfl) ?_
    refine k_ifb_ne 102 eX11_weeks_96 (by decide) (fun c_96 => ?_) (fun c_96 => ?_)
    · obtain ⟨q, hq60, eq6⟩ := hsh.pl hu c_96
      have eqE : wkE C u i j = C.2.2 10 (u * 60 + q) := by rw [wkE, eq6, ix_nI (by omega)]
      refine k_loc (L2 := [_, _, _, _, _, _, .int (nI q), _, _]) (by rw [eq6]) ?_
      refine k_aload_n eX11_weeks_102 rfl ?_
      refine GX11_26 eX11_weeks_103 rfl ?_
      refine k_iload_n eX11_weeks_106 rfl ?_
      refine k_iload eX11_weeks_107 rfl ?_
      refine cV1 (M' := MX7_elementAt) eX11_weeks_109 mX11_138 wX7_elementAt vX7_elementAt ⟨_, _, _, rfl, rfl, rfl⟩ rfl (pX7_elementAt (S := (sa C 25 (wkP p d0 (wkE C u i) j))) (j := u) (i := q) (by omega) (by omega)) (by omega) (Nat.le_of_ble_eq_true rfl) ?_
      refine k_topl ((wkE C u i j)) eqE.symm ?_
      refine k_lstore (L2 := [_, _, _, _, _, _, _, _, _]) eX11_weeks_112 (Nat.le_of_ble_eq_true rfl) rfl ?_
      refine k_lload eX11_weeks_114 rfl ?_
      refine k_lconst (v := 0) eX11_weeks_116 rfl ?_
      refine k_lcmp eX11_weeks_117 ?_
      refine k_if_lt 157 eX11_weeks_118 (by decide) (fun c_118 => ?_) (fun c_118 => ?_)
      · refine k_iload eX11_weeks_157 rfl ?_
        refine k_ireturn eX11_weeks_159 rfl rfl ?_
        have eL : ldN (wkG C u d0 i m) (k + 1) j = j := by rw [ldN, if_neg (fun q : wkG C u d0 i m j => by first | exact absurd q.2.1 (by omega) | exact c_96 q.2.2.1 | exact q.2.2.2.1 c_118 | exact c_131 q.2.2.2.2)]
        rw [eL]
        exact ⟨rfl, rfl⟩
      refine k_aload_n eX11_weeks_121 rfl ?_
      refine GX11_67 eX11_weeks_122 rfl ?_
      refine k_lload eX11_weeks_125 rfl ?_
      refine k_l2i eX11_weeks_127 ?_
      refine cV1 (M' := MX10_has) eX11_weeks_128 mX11_110 wX10_has vX10_has ⟨_, _, _, rfl, rfl, rfl⟩ rfl (pX10_has (S := (sa C 25 (wkP p d0 (wkE C u i) j))) (((wkE C u i j)).toInt32)) (by omega) (Nat.le_of_ble_eq_true rfl) ?_
      refine k_ifb_ne 137 eX11_weeks_131 (by decide) (fun c_131 => ?_) (fun c_131 => ?_)
      · refine k_aload_n eX11_weeks_137 rfl ?_
        refine GX11_75 eX11_weeks_138 rfl ?_
        refine k_iload_n eX11_weeks_141 rfl ?_
        refine k_iload eX11_weeks_142 rfl ?_
        refine k_iaddN eX11_weeks_144 ?_
        refine k_lload eX11_weeks_145 rfl ?_
        refine k_l2i eX11_weeks_147 ?_
        refine cV0 (M' := MX2_set) eX11_weeks_148 mX11_142 wX2_set vX2_set ⟨_, _, _, rfl, rfl, rfl⟩ rfl (pX2_set (S := (sa C 25 (wkP p d0 (wkE C u i) j))) (j := (d0 + j)) (((wkE C u i j)).toInt32) (by omega)) (by omega) (Nat.le_of_ble_eq_true rfl) ?_
        refine k_iincN (g := 1) (a := j) (L2 := [_, _, _, _, _, _, _, _, _]) eX11_weeks_151 (Nat.le_of_ble_eq_true rfl) rfl rfl ?_
        refine k_goto 56 eX11_weeks_154 (by decide) ?_
        have hg : wkG C u d0 i m j := ⟨by omega, by omega, c_96, c_118, c_131⟩
        have eL : ldN (wkG C u d0 i m) (k + 1) j = ldN (wkG C u d0 i m) k (j + 1) := by rw [ldN, if_pos hg]
        rw [eL]
        refine k_forget 6 (L2 := [_, _, _, _, _, _, _, _, _]) rfl ?_
        refine k_forget 7 (L2 := [_, _, _, _, _, _, _, _, _]) rfl ?_
        rw [sa_sa]
        exact ih (j + 1) (by omega)
      refine k_goto 157 eX11_weeks_134 (by decide) ?_
      refine k_iload eX11_weeks_157 rfl ?_
      refine k_ireturn eX11_weeks_159 rfl rfl ?_
      have eL : ldN (wkG C u d0 i m) (k + 1) j = j := by rw [ldN, if_neg (fun q : wkG C u d0 i m j => by first | exact absurd q.2.1 (by omega) | exact c_96 q.2.2.1 | exact q.2.2.2.1 c_118 | exact c_131 q.2.2.2.2)]
      rw [eL]
      exact ⟨rfl, rfl⟩
    refine k_goto 157 eX11_weeks_99 (by decide) ?_
    refine k_iload eX11_weeks_157 rfl ?_
    refine k_ireturn eX11_weeks_159 rfl rfl ?_
    have eL : ldN (wkG C u d0 i m) (k + 1) j = j := by rw [ldN, if_neg (fun q : wkG C u d0 i m j => by first | exact absurd q.2.1 (by omega) | exact c_96 q.2.2.1 | exact q.2.2.2.1 c_118 | exact c_131 q.2.2.2.2)]
    rw [eL]
    exact ⟨rfl, rfl⟩
set_option maxHeartbeats 400000 in
theorem pX11_weeks {S : k_S} {kn : Nat} (hsh : ShOk S kn) (dy s i n : Int32) : Sp 3 0 0 MX11_weeks [.ref 0, .int (dy), .int (s), .int (i), .int (n)] (hp S) (Rt (some (.int (aWks S dy s i n))) (hp (sWks S dy s i n))) := by
  refine Sp_of (by decide +kernel) (Nat.le_of_ble_eq_true rfl) ?_
  show AW none MX11_weeks 3 0 0 0 [.ref 0, .int (dy), .int (s), .int (i), .int (n), .null, .null, .null, .null] [] (hp S) _
  refine k_iload_n eX11_weeks_0 rfl ?_
  refine cS1 (M' := MX11_isDay) eX11_weeks_1 mX11_122 wX11_isDay sX11_isDay rfl (pX11_isDay (dy)) (by decide) (Nat.le_of_ble_eq_true rfl) ?_
  refine k_ifb_eq 29 eX11_weeks_4 (by decide) (fun c_4 => ?_) (fun c_4 => ?_)
  · refine k_iconst (v := (-1)) eX11_weeks_29 (by decide) ?_
    refine k_ireturn eX11_weeks_30 rfl rfl ?_
    exact ⟨by rw [aWks, if_neg (fun q => by first | exact c_4 q.1 | exact c_15 q.2.1 | exact c_26 q.2.2)], by rw [sWks, if_neg (fun q => by first | exact c_4 q.1 | exact c_15 q.2.1 | exact c_26 q.2.2)]⟩
  refine k_aload_n eX11_weeks_7 rfl ?_
  refine GX11_26 eX11_weeks_8 rfl ?_
  refine k_iload_n eX11_weeks_11 rfl ?_
  refine cV1 (M' := MX7_isShelf) eX11_weeks_12 mX11_125 wX7_isShelf vX7_isShelf ⟨_, _, _, rfl, rfl, rfl⟩ rfl (pX7_isShelf (S := S) (s)) (by decide) (Nat.le_of_ble_eq_true rfl) ?_
  refine k_ifb_eq 29 eX11_weeks_15 (by decide) (fun c_15 => ?_) (fun c_15 => ?_)
  · refine k_iconst (v := (-1)) eX11_weeks_29 (by decide) ?_
    refine k_ireturn eX11_weeks_30 rfl rfl ?_
    exact ⟨by rw [aWks, if_neg (fun q => by first | exact c_4 q.1 | exact c_15 q.2.1 | exact c_26 q.2.2)], by rw [sWks, if_neg (fun q => by first | exact c_4 q.1 | exact c_15 q.2.1 | exact c_26 q.2.2)]⟩
  refine k_iload eX11_weeks_18 rfl ?_
  refine k_iconst (v := nI 1) eX11_weeks_20 (by decide) ?_
  refine k_bipush (v := nI 60) eX11_weeks_21 (by decide) ?_
  refine cS1 (M' := MX11_within) eX11_weeks_23 mX11_114 wX11_within sX11_within rfl (pX11_within (n) (nI 1) (nI 60)) (by decide) (Nat.le_of_ble_eq_true rfl) ?_
  refine k_ifb_ne 31 eX11_weeks_26 (by decide) (fun c_26 => ?_) (fun c_26 => ?_)
  · have hC : pWks dy s n := ⟨c_4, c_15, c_26⟩
    obtain ⟨d0, hd0, rfl⟩ := pD_ex c_4
    obtain ⟨u, hu, rfl⟩ := k_rng c_15.1 c_15.2 (by decide)
    obtain ⟨m, hm, rfl⟩ := k_rngle (Int32.le_trans (by decide) c_26.1) c_26.2 (by decide)
    refine k_aload_n eX11_weeks_31 rfl ?_
    refine GX11_26 eX11_weeks_32 rfl ?_
    refine k_iload_n eX11_weeks_35 rfl ?_
    refine k_iconst (v := nI 0) eX11_weeks_36 (by decide) ?_
    refine cV1 (M' := MX7_holdsOtherThan) eX11_weeks_37 mX11_128 wX7_holdsOtherThan vX7_holdsOtherThan ⟨_, _, _, rfl, rfl, rfl⟩ rfl (pX7_holdsOtherThan (S := S) (j := u) (by omega) (nI 0)) (by decide) (Nat.le_of_ble_eq_true rfl) ?_
    refine k_ifb_eq 46 eX11_weeks_40 (by decide) (fun c_40 => ?_) (fun c_40 => ?_)
    · refine k_aload_n eX11_weeks_46 rfl ?_
      refine GX11_92 eX11_weeks_47 rfl ?_
      refine cV0 (M' := MX1_clear) eX11_weeks_50 mX11_132 wX1_clear vX1_clear ⟨_, _, _, rfl, rfl, rfl⟩ rfl (pX1_clear (S := S) ) (by decide) (Nat.le_of_ble_eq_true rfl) ?_
      refine k_iconst (v := nI 0) eX11_weeks_53 (by decide) ?_
      refine k_istore (L2 := [_, _, _, _, _, _, _, _, _]) eX11_weeks_54 (Nat.le_of_ble_eq_true rfl) rfl ?_
      have e9 : clS S = sa (clS S) 25 (wkP (S.2.1 25) d0 (wkE (clS S) u i) 0) := (sa_self (clS S) 25).symm
      refine k_loc (L2 := [_, _, _, _, _, .int (nI 0), _, _, _]) rfl ?_
      rw [show (si (si S 1656 (nI 0)) 1657 (nI 0)) = clS S from rfl, aWks, sWks, if_pos hC, if_pos hC, ix_nI (by omega), if_neg c_40, if_neg c_40, wkcN, ix_nI (by omega), ix_nI (by omega), ix_nI (by omega)]
      have q := lX11_weeks (d := 3) (by decide) (C := clS S) (p := S.2.1 25) hsh hd0 hu hm i m 0 (by omega)
      rw [← e9] at q
      exact q
    refine k_bipush (v := (-12)) eX11_weeks_43 (by decide) ?_
    refine k_ireturn eX11_weeks_45 rfl rfl ?_
    exact ⟨by rw [aWks, if_pos hC, ix_nI (by omega), if_pos c_40], by rw [sWks, if_pos hC, ix_nI (by omega), if_pos c_40]⟩
  refine k_iconst (v := (-1)) eX11_weeks_29 (by decide) ?_
  refine k_ireturn eX11_weeks_30 rfl rfl ?_
  exact ⟨by rw [aWks, if_neg (fun q => by first | exact c_4 q.1 | exact c_15 q.2.1 | exact c_26 q.2.2)], by rw [sWks, if_neg (fun q => by first | exact c_4 q.1 | exact c_15 q.2.1 | exact c_26 q.2.2)]⟩
