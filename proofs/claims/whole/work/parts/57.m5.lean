/-- one change told; the oldest forgotten -/
def mchP (S : k_S) (n c : Nat) (b v : Int32) : k_S := si (si (sa (sa (sa S 69 (va_up (S.2.1 69) n (nI c))) 70 (va_up (S.2.1 70) n b)) 71 (va_up (S.2.1 71) n v)) 2626 (nI (n + 1))) 2625 (nI (n + 1))
def mdrT (S : k_S) (n : Nat) : k_S := sa (sa (sa S 69 (shN (S.2.1 69) n)) 70 (shN (S.2.1 70) n)) 71 (shN (S.2.1 71) n)
def mdrS (S : k_S) : k_S := si (mdrT S 39) 2626 (nI 39)
theorem mdrT_0 (S : k_S) : mdrT S 0 = S := by rw [mdrT, shN, shN, shN, sa_self, sa_self, sa_self]
theorem mdrT_s (S : k_S) (j : Nat) : sa (sa (sa (mdrT S j) 69 (va_up ((mdrT S j).2.1 69) j ((mdrT S j).2.1 69 (j + 1)))) 70 (va_up ((mdrT S j).2.1 70) j ((mdrT S j).2.1 70 (j + 1)))) 71 (va_up ((mdrT S j).2.1 71) j ((mdrT S j).2.1 71 (j + 1))) = mdrT S (j + 1) := by
  refine Prod.ext rfl (Prod.ext (funext fun k => ?_) rfl)
  by_cases h : k = 71
  · subst h; rfl
  · by_cases h2 : k = 70
    · subst h2; rfl
    · by_cases h3 : k = 69
      · subst h3; rfl
      · simp [sa, mdrT, va_up, h, h2, h3]
def mtlU (S : k_S) (n a p c : Nat) (v : Int32) : k_S := if S.2.1 a p = v then S else if n = 40 then sa (mchP (mdrS S) 39 c (S.2.1 a p) v) a (va_up (S.2.1 a) p v) else sa (mchP S n c (S.2.1 a p) v) a (va_up (S.2.1 a) p v)
theorem pIn_W1 {k : Nat} (hk : k < 2 ^ 30) (v : Int32) : pIn v (nI 1) (nI k - nI 1) ↔ ¬ v = 0 ∧ pW (nI k) v := by
  have e : (v = 0) ↔ v.toInt = 0 := ⟨fun h => by rw [h]; rfl, fun h => Int32.toInt_inj.mp h⟩
  rw [pIn, pW, e, Int32.le_iff_toInt_le, Int32.le_iff_toInt_le, Int32.le_iff_toInt_le, Int32.lt_iff_toInt_lt, pk_sub_toInt hk (by decide), nI_toInt (by omega), nI_toInt (by omega), nI_toInt (by omega)]; omega
set_option maxHeartbeats 400000 in
theorem pX12_held0 {S : k_S} {p : Nat} (hpp : p < 120) : Sp 0 0 0 MX12_held [.ref 52, .int (nI p)] (hp S) (Rt (some (.int (S.2.1 61 p))) (hp S)) := by
  refine Sp_of (by decide +kernel) (Nat.le_of_ble_eq_true rfl) ?_
  show AW none MX12_held 0 0 0 0 [.ref 52, .int (nI p)] [] (hp S) _
  refine k_iload_n eX12_held_0 rfl ?_
  refine k_bipush (v := nI 120) eX12_held_1 (by decide) ?_
  refine k_icmp_geN 15 eX12_held_3 (by decide) (by omega) (by omega) (fun c_3 => by exfalso; omega) (fun c_3 => ?_)
  refine k_aload_n eX12_held_6 rfl ?_
  refine GX12_38 eX12_held_7 rfl ?_
  refine k_iload_n eX12_held_10 rfl ?_
  refine k_ialdN (j := p) eX12_held_11 (ar61 _) (by omega) (Nat.le_of_ble_eq_true rfl) ?_
  refine k_goto 44 eX12_held_12 (by decide) ?_
  refine k_ireturn eX12_held_44 rfl rfl ?_
  exact ⟨rfl, rfl⟩
set_option maxHeartbeats 400000 in
theorem pX12_holds0 {S : k_S} {p : Nat} (hpp : p < 120) (v : Int32) : Sp 0 0 0 MX12_holds [.ref 52, .int (nI p), .int (v)] (hp S) (Rt (none) (hp (sa S 61 (va_up (S.2.1 61) p v)))) := by
  refine Sp_of (by decide +kernel) (Nat.le_of_ble_eq_true rfl) ?_
  show AW none MX12_holds 0 0 0 0 [.ref 52, .int (nI p), .int (v)] [] (hp S) _
  refine k_iload_n eX12_holds_0 rfl ?_
  refine k_bipush (v := nI 120) eX12_holds_1 (by decide) ?_
  refine k_icmp_geN 16 eX12_holds_3 (by decide) (by omega) (by omega) (fun c_3 => by exfalso; omega) (fun c_3 => ?_)
  refine k_aload_n eX12_holds_6 rfl ?_
  refine GX12_38 eX12_holds_7 rfl ?_
  refine k_iload_n eX12_holds_10 rfl ?_
  refine k_iload_n eX12_holds_11 rfl ?_
  refine k_iastN (j := p) eX12_holds_12 (ar61 _) (by omega) (Nat.le_of_ble_eq_true rfl) (as61 _ _) ?_
  refine k_goto 47 eX12_holds_13 (by decide) ?_
  refine k_return eX12_holds_47 rfl ?_
  exact ⟨rfl, rfl⟩
set_option maxHeartbeats 400000 in
theorem pX12_changed0s {S : k_S} {p : Nat} (hpp : p < 120) {n : Nat} (hn : S.1 2626 = nI n) (hn40 : n ≤ 40) (v : Int32) (hs : S.2.1 61 p = v) : Sp 1 0 0 MX12_changed [.ref 52, .int (nI p), .int (v)] (hp S) (Rt (some (.int (S.2.1 61 p))) (hp S)) := by
  refine Sp_of (by decide +kernel) (Nat.le_of_ble_eq_true rfl) ?_
  show AW none MX12_changed 1 0 0 0 [.ref 52, .int (nI p), .int (v), .null, .null] [] (hp S) _
  refine k_aload_n eX12_changed_0 rfl ?_
  refine k_iload_n eX12_changed_1 rfl ?_
  refine cV1 (M' := MX12_held) eX12_changed_2 mX12_134 wX12_held vX12_held ⟨_, _, _, rfl, rfl, rfl⟩ rfl (pX12_held0 (S := S) (p := p) hpp) (by decide) (Nat.le_of_ble_eq_true rfl) ?_
  refine k_istore_n (L2 := [_, _, _, _, _]) eX12_changed_5 (Nat.le_of_ble_eq_true rfl) rfl ?_
  refine k_iload_n eX12_changed_6 rfl ?_
  refine k_iload_n eX12_changed_7 rfl ?_
  refine k_icmp_ne 13 eX12_changed_8 (by decide) (fun c_8 => by exact absurd hs c_8) (fun c_8 => ?_)
  refine k_iload_n eX12_changed_11 rfl ?_
  refine k_ireturn eX12_changed_12 rfl rfl ?_
  exact ⟨rfl, rfl⟩
set_option maxHeartbeats 400000 in
theorem pX12_changed0a {S : k_S} {p : Nat} (hpp : p < 120) {n : Nat} (hn : S.1 2626 = nI n) (hn40 : n < 40) (v : Int32) (hs : ¬ S.2.1 61 p = v) : Sp 1 0 0 MX12_changed [.ref 52, .int (nI p), .int (v)] (hp S) (Rt (some (.int (S.2.1 61 p))) (hp (sa (mchP S n (p) (S.2.1 61 p) v) 61 (va_up (S.2.1 61) p v)))) := by
  refine Sp_of (by decide +kernel) (Nat.le_of_ble_eq_true rfl) ?_
  show AW none MX12_changed 1 0 0 0 [.ref 52, .int (nI p), .int (v), .null, .null] [] (hp S) _
  refine k_aload_n eX12_changed_0 rfl ?_
  refine k_iload_n eX12_changed_1 rfl ?_
  refine cV1 (M' := MX12_held) eX12_changed_2 mX12_134 wX12_held vX12_held ⟨_, _, _, rfl, rfl, rfl⟩ rfl (pX12_held0 (S := S) (p := p) hpp) (by decide) (Nat.le_of_ble_eq_true rfl) ?_
  refine k_istore_n (L2 := [_, _, _, _, _]) eX12_changed_5 (Nat.le_of_ble_eq_true rfl) rfl ?_
  refine k_iload_n eX12_changed_6 rfl ?_
  refine k_iload_n eX12_changed_7 rfl ?_
  refine k_icmp_ne 13 eX12_changed_8 (by decide) (fun c_8 => ?_) (fun c_8 => by exact absurd c_8 hs)
  refine k_aload_n eX12_changed_13 rfl ?_
  refine GX12_138 eX12_changed_14 rfl ?_
  refine k_topi (nI n) hn ?_
  refine k_bipush (v := nI 40) eX12_changed_17 (by decide) ?_
  refine k_icmp_neN 96 eX12_changed_19 (by decide) (by omega) (by omega) (fun c_19 => ?_) (fun c_19 => by exfalso; omega)
  refine k_aload_n eX12_changed_96 rfl ?_
  refine GX12_65 eX12_changed_97 rfl ?_
  refine k_aload_n eX12_changed_100 rfl ?_
  refine GX12_138 eX12_changed_101 rfl ?_
  refine k_topi (nI n) hn ?_
  refine k_iload_n eX12_changed_104 rfl ?_
  refine k_iastN (j := n) eX12_changed_105 (ar69 _) (by omega) (Nat.le_of_ble_eq_true rfl) (as69 _ _) ?_
  refine k_aload_n eX12_changed_106 rfl ?_
  refine GX12_68 eX12_changed_107 rfl ?_
  refine k_aload_n eX12_changed_110 rfl ?_
  refine GX12_138 eX12_changed_111 rfl ?_
  refine k_topi (nI n) hn ?_
  refine k_iload_n eX12_changed_114 rfl ?_
  refine k_iastN (j := n) eX12_changed_115 (ar70 _) (by omega) (Nat.le_of_ble_eq_true rfl) (as70 _ _) ?_
  refine k_aload_n eX12_changed_116 rfl ?_
  refine GX12_71 eX12_changed_117 rfl ?_
  refine k_aload_n eX12_changed_120 rfl ?_
  refine GX12_138 eX12_changed_121 rfl ?_
  refine k_topi (nI n) hn ?_
  refine k_iload_n eX12_changed_124 rfl ?_
  refine k_iastN (j := n) eX12_changed_125 (ar71 _) (by omega) (Nat.le_of_ble_eq_true rfl) (as71 _ _) ?_
  refine k_aload_n eX12_changed_126 rfl ?_
  refine k_dup eX12_changed_127 rfl ?_
  refine GX12_138 eX12_changed_128 rfl ?_
  refine k_topi (nI n) hn ?_
  refine k_iconst (v := nI 1) eX12_changed_131 (by decide) ?_
  refine k_iaddN eX12_changed_132 ?_
  refine PX12_138 eX12_changed_133 rfl ?_
  refine k_aload_n eX12_changed_136 rfl ?_
  refine k_aload_n eX12_changed_137 rfl ?_
  refine GX12_138 eX12_changed_138 rfl ?_
  refine k_topi (nI (n + 1)) rfl ?_
  refine PX12_141 eX12_changed_141 rfl ?_
  refine k_aload_n eX12_changed_144 rfl ?_
  refine k_iload_n eX12_changed_145 rfl ?_
  refine k_iload_n eX12_changed_146 rfl ?_
  refine cV0 (M' := MX12_holds) eX12_changed_147 mX12_144 wX12_holds vX12_holds ⟨_, _, _, rfl, rfl, rfl⟩ rfl (pX12_holds0 (S := (si (si (sa (sa (sa S 69 (va_up ((S).2.1 69) n (nI p))) 70 (va_up (((sa S 69 (va_up ((S).2.1 69) n (nI p)))).2.1 70) n (((S).2.1 61 p)))) 71 (va_up (((sa (sa S 69 (va_up ((S).2.1 69) n (nI p))) 70 (va_up (((sa S 69 (va_up ((S).2.1 69) n (nI p)))).2.1 70) n (((S).2.1 61 p))))).2.1 71) n (v))) 2626 (nI (n + 1))) 2625 (nI (n + 1)))) (p := p) hpp (v)) (by decide) (Nat.le_of_ble_eq_true rfl) ?_
  refine k_iload_n eX12_changed_150 rfl ?_
  refine k_ireturn eX12_changed_151 rfl rfl ?_
  exact ⟨rfl, rfl⟩
set_option maxHeartbeats 400000 in
theorem lX12_changed {d : Nat} {Po : Option Value → k_H → Prop} (hdd : 0 ≤ d) {S : k_S} (c : Nat) (x w : Int32) (kx : AW none MX12_changed d 0 0 86 [.ref 52, .int (nI c), .int (x), .int (w), .int (nI 40)] [] (hp (mdrT S 39)) Po) : ∀ (n j : Nat), j + n = 39 → AW none MX12_changed d 0 0 25 [.ref 52, .int (nI c), .int (x), .int (w), .int (nI (j + 1))] [] (hp (mdrT S j)) Po := by
  intro n
  induction n with
  | zero =>
    intro j hj
    rw [show j = 39 by omega]
    refine k_iload eX12_changed_25 rfl ?_
    refine k_bipush (v := nI 40) eX12_changed_27 (by decide) ?_
    refine k_icmp_geN 86 eX12_changed_29 (by decide) (by omega) (by omega) (fun c_29 => ?_) (fun c_29 => by exfalso; omega)
    exact kx
  | succ n ih =>
    intro j hj
    refine k_iload eX12_changed_25 rfl ?_
    refine k_bipush (v := nI 40) eX12_changed_27 (by decide) ?_
    refine k_icmp_geN 86 eX12_changed_29 (by decide) (by omega) (by omega) (fun c_29 => by exfalso; omega) (fun c_29 => ?_)
    refine k_aload_n eX12_changed_32 rfl ?_
    refine GX12_65 eX12_changed_33 rfl ?_
    refine k_iload eX12_changed_36 rfl ?_
    refine k_iconst (v := nI 1) eX12_changed_38 (by decide) ?_
    refine k_isubN eX12_changed_39 (by omega) ?_
    refine k_aload_n eX12_changed_40 rfl ?_
    refine GX12_65 eX12_changed_41 rfl ?_
    refine k_iload eX12_changed_44 rfl ?_
    refine k_ialdN (j := (j + 1)) eX12_changed_46 (ar69 _) (by omega) (Nat.le_of_ble_eq_true rfl) ?_
    refine k_iastN (j := ((j + 1) - 1)) eX12_changed_47 (ar69 _) (by omega) (Nat.le_of_ble_eq_true rfl) (as69 _ _) ?_
    refine k_aload_n eX12_changed_48 rfl ?_
    refine GX12_68 eX12_changed_49 rfl ?_
    refine k_iload eX12_changed_52 rfl ?_
    refine k_iconst (v := nI 1) eX12_changed_54 (by decide) ?_
    refine k_isubN eX12_changed_55 (by omega) ?_
    refine k_aload_n eX12_changed_56 rfl ?_
    refine GX12_68 eX12_changed_57 rfl ?_
    refine k_iload eX12_changed_60 rfl ?_
    refine k_ialdN (j := (j + 1)) eX12_changed_62 (ar70 _) (by omega) (Nat.le_of_ble_eq_true rfl) ?_
    refine k_iastN (j := ((j + 1) - 1)) eX12_changed_63 (ar70 _) (by omega) (Nat.le_of_ble_eq_true rfl) (as70 _ _) ?_
    refine k_aload_n eX12_changed_64 rfl ?_
    refine GX12_71 eX12_changed_65 rfl ?_
    refine k_iload eX12_changed_68 rfl ?_
    refine k_iconst (v := nI 1) eX12_changed_70 (by decide) ?_
    refine k_isubN eX12_changed_71 (by omega) ?_
    refine k_aload_n eX12_changed_72 rfl ?_
    refine GX12_71 eX12_changed_73 rfl ?_
    refine k_iload eX12_changed_76 rfl ?_
    refine k_ialdN (j := (j + 1)) eX12_changed_78 (ar71 _) (by omega) (Nat.le_of_ble_eq_true rfl) ?_
    refine k_iastN (j := ((j + 1) - 1)) eX12_changed_79 (ar71 _) (by omega) (Nat.le_of_ble_eq_true rfl) (as71 _ _) ?_
    refine k_iincN (g := 1) (a := (j + 1)) (L2 := [_, _, _, _, _]) eX12_changed_80 (Nat.le_of_ble_eq_true rfl) rfl rfl ?_
    refine k_goto 25 eX12_changed_83 (by decide) ?_
    refine k_heap (h2 := hp (mdrT S (j + 1))) (congrArg hp (mdrT_s S j)) ?_
    exact ih (j + 1) (by omega)
set_option maxHeartbeats 400000 in
theorem pX12_changed0f {S : k_S} {p : Nat} (hpp : p < 120) {n : Nat} (hn : S.1 2626 = nI n) (hn40 : n = 40) (v : Int32) (hs : ¬ S.2.1 61 p = v) : Sp 1 0 0 MX12_changed [.ref 52, .int (nI p), .int (v)] (hp S) (Rt (some (.int (S.2.1 61 p))) (hp (sa (mchP (mdrS S) 39 (p) (S.2.1 61 p) v) 61 (va_up (S.2.1 61) p v)))) := by
  refine Sp_of (by decide +kernel) (Nat.le_of_ble_eq_true rfl) ?_
  show AW none MX12_changed 1 0 0 0 [.ref 52, .int (nI p), .int (v), .null, .null] [] (hp S) _
  refine k_aload_n eX12_changed_0 rfl ?_
  refine k_iload_n eX12_changed_1 rfl ?_
  refine cV1 (M' := MX12_held) eX12_changed_2 mX12_134 wX12_held vX12_held ⟨_, _, _, rfl, rfl, rfl⟩ rfl (pX12_held0 (S := S) (p := p) hpp) (by decide) (Nat.le_of_ble_eq_true rfl) ?_
  refine k_istore_n (L2 := [_, _, _, _, _]) eX12_changed_5 (Nat.le_of_ble_eq_true rfl) rfl ?_
  refine k_iload_n eX12_changed_6 rfl ?_
  refine k_iload_n eX12_changed_7 rfl ?_
  refine k_icmp_ne 13 eX12_changed_8 (by decide) (fun c_8 => ?_) (fun c_8 => by exact absurd c_8 hs)
  refine k_aload_n eX12_changed_13 rfl ?_
  refine GX12_138 eX12_changed_14 rfl ?_
  refine k_topi (nI n) hn ?_
  refine k_bipush (v := nI 40) eX12_changed_17 (by decide) ?_
  refine k_icmp_neN 96 eX12_changed_19 (by decide) (by omega) (by omega) (fun c_19 => by exfalso; omega) (fun c_19 => ?_)
  refine k_iconst (v := nI 1) eX12_changed_22 (by decide) ?_
  refine k_istore (L2 := [_, _, _, _, _]) eX12_changed_23 (Nat.le_of_ble_eq_true rfl) rfl ?_
  refine k_heap (h2 := hp (mdrT S 0)) (congrArg hp (mdrT_0 S).symm) ?_
  refine lX12_changed (by decide) (S := S) (p) v (S.2.1 61 p) ?_ 39 0 (by omega)
  refine k_aload_n eX12_changed_86 rfl ?_
  refine k_dup eX12_changed_87 rfl ?_
  refine GX12_138 eX12_changed_88 rfl ?_
  refine k_topi (nI 40) (show (mdrT S 39).1 2626 = nI 40 from hn.trans (by rw [hn40])) ?_
  refine k_iconst (v := nI 1) eX12_changed_91 (by decide) ?_
  refine k_isubN eX12_changed_92 (by omega) ?_
  refine PX12_138 eX12_changed_93 rfl ?_
  refine k_aload_n eX12_changed_96 rfl ?_
  refine GX12_65 eX12_changed_97 rfl ?_
  refine k_aload_n eX12_changed_100 rfl ?_
  refine GX12_138 eX12_changed_101 rfl ?_
  refine k_topi (nI 39) rfl ?_
  refine k_iload_n eX12_changed_104 rfl ?_
  refine k_iastN (j := 39) eX12_changed_105 (ar69 _) (by omega) (Nat.le_of_ble_eq_true rfl) (as69 _ _) ?_
  refine k_aload_n eX12_changed_106 rfl ?_
  refine GX12_68 eX12_changed_107 rfl ?_
  refine k_aload_n eX12_changed_110 rfl ?_
  refine GX12_138 eX12_changed_111 rfl ?_
  refine k_topi (nI 39) rfl ?_
  refine k_iload_n eX12_changed_114 rfl ?_
  refine k_iastN (j := 39) eX12_changed_115 (ar70 _) (by omega) (Nat.le_of_ble_eq_true rfl) (as70 _ _) ?_
  refine k_aload_n eX12_changed_116 rfl ?_
  refine GX12_71 eX12_changed_117 rfl ?_
  refine k_aload_n eX12_changed_120 rfl ?_
  refine GX12_138 eX12_changed_121 rfl ?_
  refine k_topi (nI 39) rfl ?_
  refine k_iload_n eX12_changed_124 rfl ?_
  refine k_iastN (j := 39) eX12_changed_125 (ar71 _) (by omega) (Nat.le_of_ble_eq_true rfl) (as71 _ _) ?_
  refine k_aload_n eX12_changed_126 rfl ?_
  refine k_dup eX12_changed_127 rfl ?_
  refine GX12_138 eX12_changed_128 rfl ?_
  refine k_topi (nI 39) rfl ?_
  refine k_iconst (v := nI 1) eX12_changed_131 (by decide) ?_
  refine k_iaddN eX12_changed_132 ?_
  refine PX12_138 eX12_changed_133 rfl ?_
  refine k_aload_n eX12_changed_136 rfl ?_
  refine k_aload_n eX12_changed_137 rfl ?_
  refine GX12_138 eX12_changed_138 rfl ?_
  refine k_topi (nI 40) rfl ?_
  refine PX12_141 eX12_changed_141 rfl ?_
  refine k_aload_n eX12_changed_144 rfl ?_
  refine k_iload_n eX12_changed_145 rfl ?_
  refine k_iload_n eX12_changed_146 rfl ?_
  refine cV0 (M' := MX12_holds) eX12_changed_147 mX12_144 wX12_holds vX12_holds ⟨_, _, _, rfl, rfl, rfl⟩ rfl (pX12_holds0 (S := (si (si (sa (sa (sa (si (mdrT S 39) 2626 (nI (40 - 1))) 69 (va_up (((si (mdrT S 39) 2626 (nI (40 - 1)))).2.1 69) 39 (nI p))) 70 (va_up (((sa (si (mdrT S 39) 2626 (nI (40 - 1))) 69 (va_up (((si (mdrT S 39) 2626 (nI (40 - 1)))).2.1 69) 39 (nI p)))).2.1 70) 39 ((S.2.1 61 p)))) 71 (va_up (((sa (sa (si (mdrT S 39) 2626 (nI (40 - 1))) 69 (va_up (((si (mdrT S 39) 2626 (nI (40 - 1)))).2.1 69) 39 (nI p))) 70 (va_up (((sa (si (mdrT S 39) 2626 (nI (40 - 1))) 69 (va_up (((si (mdrT S 39) 2626 (nI (40 - 1)))).2.1 69) 39 (nI p)))).2.1 70) 39 ((S.2.1 61 p))))).2.1 71) 39 (v))) 2626 (nI 40)) 2625 (nI 40))) (p := p) hpp (v)) (by decide) (Nat.le_of_ble_eq_true rfl) ?_
  refine k_iload_n eX12_changed_150 rfl ?_
  refine k_ireturn eX12_changed_151 rfl rfl ?_
  exact ⟨rfl, rfl⟩
theorem pX12_changed0 {S : k_S} {p : Nat} (hpp : p < 120) {n : Nat} (hn : S.1 2626 = nI n) (hn40 : n ≤ 40) (v : Int32) : Sp 1 0 0 MX12_changed [.ref 52, .int (nI (p)), .int v] (hp S) (Rt (some (.int (S.2.1 61 p))) (hp (mtlU S n 61 p (p) v))) := by
  by_cases h : S.2.1 61 p = v
  · rw [mtlU, if_pos h]; exact pX12_changed0s hpp hn hn40 v h
  · by_cases h2 : n = 40
    · rw [mtlU, if_neg h, if_pos h2]; exact pX12_changed0f hpp hn h2 v h
    · rw [mtlU, if_neg h, if_neg h2]; exact pX12_changed0a hpp hn (by omega) v h
set_option maxHeartbeats 400000 in
theorem pX12_undo0 {S : k_S} {n p : Nat} (hn : S.1 2626 = nI (n + 1)) (hn40 : n < 40) (hq : S.2.1 69 n = nI (p)) (hpp : p < 120) : Sp 1 0 0 MX12_undo [.ref 52] (hp S) (Rt (some (.int (nI n))) (hp (sa (si S 2626 (nI n)) 61 (va_up (S.2.1 61) p (S.2.1 70 n))))) := by
  refine Sp_of (by decide +kernel) (Nat.le_of_ble_eq_true rfl) ?_
  show AW none MX12_undo 1 0 0 0 [.ref 52] [] (hp S) _
  refine k_aload_n eX12_undo_0 rfl ?_
  refine GX12_138 eX12_undo_1 rfl ?_
  refine k_topi (nI (n + 1)) hn ?_
  refine k_if_neN 10 eX12_undo_4 (by decide) (by omega) (fun c_4 => ?_) (fun c_4 => by exfalso; omega)
  refine k_aload_n eX12_undo_10 rfl ?_
  refine k_dup eX12_undo_11 rfl ?_
  refine GX12_138 eX12_undo_12 rfl ?_
  refine k_topi (nI (n + 1)) hn ?_
  refine k_iconst (v := nI 1) eX12_undo_15 (by decide) ?_
  refine k_isubN eX12_undo_16 (by omega) ?_
  refine PX12_138 eX12_undo_17 rfl ?_
  refine k_aload_n eX12_undo_20 rfl ?_
  refine k_aload_n eX12_undo_21 rfl ?_
  refine GX12_65 eX12_undo_22 rfl ?_
  refine k_aload_n eX12_undo_25 rfl ?_
  refine GX12_138 eX12_undo_26 rfl ?_
  refine k_topi (nI n) rfl ?_
  refine k_ialdN (j := n) eX12_undo_29 (ar69 _) (by omega) (Nat.le_of_ble_eq_true rfl) ?_
  refine k_topi (nI p) hq ?_
  refine k_aload_n eX12_undo_30 rfl ?_
  refine GX12_68 eX12_undo_31 rfl ?_
  refine k_aload_n eX12_undo_34 rfl ?_
  refine GX12_138 eX12_undo_35 rfl ?_
  refine k_topi (nI n) rfl ?_
  refine k_ialdN (j := n) eX12_undo_38 (ar70 _) (by omega) (Nat.le_of_ble_eq_true rfl) ?_
  refine cV0 (M' := MX12_holds) eX12_undo_39 mX12_144 wX12_holds vX12_holds ⟨_, _, _, rfl, rfl, rfl⟩ rfl (pX12_holds0 (S := (si S 2626 (nI ((n + 1) - 1)))) (p := p) hpp (((((si S 2626 (nI ((n + 1) - 1)))).2.1 70) n))) (by decide) (Nat.le_of_ble_eq_true rfl) ?_
  refine k_aload_n eX12_undo_42 rfl ?_
  refine GX12_138 eX12_undo_43 rfl ?_
  refine k_topi (nI n) rfl ?_
  refine k_ireturn eX12_undo_46 rfl rfl ?_
  exact ⟨rfl, rfl⟩
set_option maxHeartbeats 400000 in
theorem pX12_redo0 {S : k_S} {n p c : Nat} (hn : S.1 2626 = nI n) (hn40 : n < c) (hc : S.1 2625 = nI c) (hc40 : c ≤ 40) (hq : S.2.1 69 n = nI (p)) (hpp : p < 120) : Sp 1 0 0 MX12_redo [.ref 52] (hp S) (Rt (some (.int (nI (c - (n + 1))))) (hp (si (sa S 61 (va_up (S.2.1 61) p (S.2.1 71 n))) 2626 (nI (n + 1))))) := by
  refine Sp_of (by decide +kernel) (Nat.le_of_ble_eq_true rfl) ?_
  show AW none MX12_redo 1 0 0 0 [.ref 52] [] (hp S) _
  refine k_aload_n eX12_redo_0 rfl ?_
  refine GX12_138 eX12_redo_1 rfl ?_
  refine k_topi (nI n) hn ?_
  refine k_aload_n eX12_redo_4 rfl ?_
  refine GX12_141 eX12_redo_5 rfl ?_
  refine k_topi (nI c) hc ?_
  refine k_icmp_neN 14 eX12_redo_8 (by decide) (by omega) (by omega) (fun c_8 => ?_) (fun c_8 => by exfalso; omega)
  refine k_aload_n eX12_redo_14 rfl ?_
  refine k_aload_n eX12_redo_15 rfl ?_
  refine GX12_65 eX12_redo_16 rfl ?_
  refine k_aload_n eX12_redo_19 rfl ?_
  refine GX12_138 eX12_redo_20 rfl ?_
  refine k_topi (nI n) hn ?_
  refine k_ialdN (j := n) eX12_redo_23 (ar69 _) (by omega) (Nat.le_of_ble_eq_true rfl) ?_
  refine k_topi (nI p) hq ?_
  refine k_aload_n eX12_redo_24 rfl ?_
  refine GX12_71 eX12_redo_25 rfl ?_
  refine k_aload_n eX12_redo_28 rfl ?_
  refine GX12_138 eX12_redo_29 rfl ?_
  refine k_topi (nI n) hn ?_
  refine k_ialdN (j := n) eX12_redo_32 (ar71 _) (by omega) (Nat.le_of_ble_eq_true rfl) ?_
  refine cV0 (M' := MX12_holds) eX12_redo_33 mX12_144 wX12_holds vX12_holds ⟨_, _, _, rfl, rfl, rfl⟩ rfl (pX12_holds0 (S := S) (p := p) hpp ((((S).2.1 71) n))) (by decide) (Nat.le_of_ble_eq_true rfl) ?_
  refine k_aload_n eX12_redo_36 rfl ?_
  refine k_dup eX12_redo_37 rfl ?_
  refine GX12_138 eX12_redo_38 rfl ?_
  refine k_topi (nI n) hn ?_
  refine k_iconst (v := nI 1) eX12_redo_41 (by decide) ?_
  refine k_iaddN eX12_redo_42 ?_
  refine PX12_138 eX12_redo_43 rfl ?_
  refine k_aload_n eX12_redo_46 rfl ?_
  refine GX12_141 eX12_redo_47 rfl ?_
  refine k_topi (nI c) hc ?_
  refine k_aload_n eX12_redo_50 rfl ?_
  refine GX12_138 eX12_redo_51 rfl ?_
  refine k_topi (nI (n + 1)) rfl ?_
  refine k_isubN eX12_redo_54 (by omega) ?_
  refine k_ireturn eX12_redo_55 rfl rfl ?_
  exact ⟨rfl, rfl⟩
set_option maxHeartbeats 400000 in
theorem pX12_held1 {S : k_S} {p : Nat} (hpp : p < 6) : Sp 0 0 0 MX12_held [.ref 52, .int (nI (120 + p))] (hp S) (Rt (some (.int (S.2.1 53 p))) (hp S)) := by
  refine Sp_of (by decide +kernel) (Nat.le_of_ble_eq_true rfl) ?_
  show AW none MX12_held 0 0 0 0 [.ref 52, .int (nI (120 + p))] [] (hp S) _
  refine k_iload_n eX12_held_0 rfl ?_
  refine k_bipush (v := nI 120) eX12_held_1 (by decide) ?_
  refine k_icmp_geN 15 eX12_held_3 (by decide) (by omega) (by omega) (fun c_3 => ?_) (fun c_3 => by exfalso; omega)
  refine k_iload_n eX12_held_15 rfl ?_
  refine k_sipush (v := nI 130) eX12_held_16 (by decide) ?_
  refine k_icmp_geN 34 eX12_held_19 (by decide) (by omega) (by omega) (fun c_19 => by exfalso; omega) (fun c_19 => ?_)
  refine k_aload_n eX12_held_22 rfl ?_
  refine GX12_13 eX12_held_23 rfl ?_
  refine k_iload_n eX12_held_26 rfl ?_
  refine k_bipush (v := nI 120) eX12_held_27 (by decide) ?_
  refine k_isubN eX12_held_29 (by omega) ?_
  refine k_ialdN (j := ((120 + p) - 120)) eX12_held_30 (ar53 _) (by omega) (Nat.le_of_ble_eq_true rfl) ?_
  refine k_goto 44 eX12_held_31 (by decide) ?_
  refine k_ireturn eX12_held_44 rfl rfl ?_
  exact ⟨by rw [show 120 + p - 120 = p by omega], rfl⟩
set_option maxHeartbeats 400000 in
theorem pX12_holds1 {S : k_S} {p : Nat} (hpp : p < 6) (v : Int32) : Sp 0 0 0 MX12_holds [.ref 52, .int (nI (120 + p)), .int (v)] (hp S) (Rt (none) (hp (sa S 53 (va_up (S.2.1 53) p v)))) := by
  refine Sp_of (by decide +kernel) (Nat.le_of_ble_eq_true rfl) ?_
  show AW none MX12_holds 0 0 0 0 [.ref 52, .int (nI (120 + p)), .int (v)] [] (hp S) _
  refine k_iload_n eX12_holds_0 rfl ?_
  refine k_bipush (v := nI 120) eX12_holds_1 (by decide) ?_
  refine k_icmp_geN 16 eX12_holds_3 (by decide) (by omega) (by omega) (fun c_3 => ?_) (fun c_3 => by exfalso; omega)
  refine k_iload_n eX12_holds_16 rfl ?_
  refine k_sipush (v := nI 130) eX12_holds_17 (by decide) ?_
  refine k_icmp_geN 36 eX12_holds_20 (by decide) (by omega) (by omega) (fun c_20 => by exfalso; omega) (fun c_20 => ?_)
  refine k_aload_n eX12_holds_23 rfl ?_
  refine GX12_13 eX12_holds_24 rfl ?_
  refine k_iload_n eX12_holds_27 rfl ?_
  refine k_bipush (v := nI 120) eX12_holds_28 (by decide) ?_
  refine k_isubN eX12_holds_30 (by omega) ?_
  refine k_iload_n eX12_holds_31 rfl ?_
  refine k_iastN (j := ((120 + p) - 120)) eX12_holds_32 (ar53 _) (by omega) (Nat.le_of_ble_eq_true rfl) (as53 _ _) ?_
  refine k_goto 47 eX12_holds_33 (by decide) ?_
  refine k_return eX12_holds_47 rfl ?_
  exact ⟨rfl, by rw [show 120 + p - 120 = p by omega]⟩
set_option maxHeartbeats 400000 in
theorem pX12_changed1s {S : k_S} {p : Nat} (hpp : p < 6) {n : Nat} (hn : S.1 2626 = nI n) (hn40 : n ≤ 40) (v : Int32) (hs : S.2.1 53 p = v) : Sp 1 0 0 MX12_changed [.ref 52, .int (nI (120 + p)), .int (v)] (hp S) (Rt (some (.int (S.2.1 53 p))) (hp S)) := by
  refine Sp_of (by decide +kernel) (Nat.le_of_ble_eq_true rfl) ?_
  show AW none MX12_changed 1 0 0 0 [.ref 52, .int (nI (120 + p)), .int (v), .null, .null] [] (hp S) _
  refine k_aload_n eX12_changed_0 rfl ?_
  refine k_iload_n eX12_changed_1 rfl ?_
  refine cV1 (M' := MX12_held) eX12_changed_2 mX12_134 wX12_held vX12_held ⟨_, _, _, rfl, rfl, rfl⟩ rfl (pX12_held1 (S := S) (p := p) hpp) (by decide) (Nat.le_of_ble_eq_true rfl) ?_
  refine k_istore_n (L2 := [_, _, _, _, _]) eX12_changed_5 (Nat.le_of_ble_eq_true rfl) rfl ?_
  refine k_iload_n eX12_changed_6 rfl ?_
  refine k_iload_n eX12_changed_7 rfl ?_
  refine k_icmp_ne 13 eX12_changed_8 (by decide) (fun c_8 => by exact absurd hs c_8) (fun c_8 => ?_)
  refine k_iload_n eX12_changed_11 rfl ?_
  refine k_ireturn eX12_changed_12 rfl rfl ?_
  exact ⟨rfl, rfl⟩
set_option maxHeartbeats 400000 in
theorem pX12_changed1a {S : k_S} {p : Nat} (hpp : p < 6) {n : Nat} (hn : S.1 2626 = nI n) (hn40 : n < 40) (v : Int32) (hs : ¬ S.2.1 53 p = v) : Sp 1 0 0 MX12_changed [.ref 52, .int (nI (120 + p)), .int (v)] (hp S) (Rt (some (.int (S.2.1 53 p))) (hp (sa (mchP S n (120 + p) (S.2.1 53 p) v) 53 (va_up (S.2.1 53) p v)))) := by
  refine Sp_of (by decide +kernel) (Nat.le_of_ble_eq_true rfl) ?_
  show AW none MX12_changed 1 0 0 0 [.ref 52, .int (nI (120 + p)), .int (v), .null, .null] [] (hp S) _
  refine k_aload_n eX12_changed_0 rfl ?_
  refine k_iload_n eX12_changed_1 rfl ?_
  refine cV1 (M' := MX12_held) eX12_changed_2 mX12_134 wX12_held vX12_held ⟨_, _, _, rfl, rfl, rfl⟩ rfl (pX12_held1 (S := S) (p := p) hpp) (by decide) (Nat.le_of_ble_eq_true rfl) ?_
  refine k_istore_n (L2 := [_, _, _, _, _]) eX12_changed_5 (Nat.le_of_ble_eq_true rfl) rfl ?_
  refine k_iload_n eX12_changed_6 rfl ?_
  refine k_iload_n eX12_changed_7 rfl ?_
  refine k_icmp_ne 13 eX12_changed_8 (by decide) (fun c_8 => ?_) (fun c_8 => by exact absurd c_8 hs)
  refine k_aload_n eX12_changed_13 rfl ?_
  refine GX12_138 eX12_changed_14 rfl ?_
  refine k_topi (nI n) hn ?_
  refine k_bipush (v := nI 40) eX12_changed_17 (by decide) ?_
  refine k_icmp_neN 96 eX12_changed_19 (by decide) (by omega) (by omega) (fun c_19 => ?_) (fun c_19 => by exfalso; omega)
  refine k_aload_n eX12_changed_96 rfl ?_
  refine GX12_65 eX12_changed_97 rfl ?_
  refine k_aload_n eX12_changed_100 rfl ?_
  refine GX12_138 eX12_changed_101 rfl ?_
  refine k_topi (nI n) hn ?_
  refine k_iload_n eX12_changed_104 rfl ?_
  refine k_iastN (j := n) eX12_changed_105 (ar69 _) (by omega) (Nat.le_of_ble_eq_true rfl) (as69 _ _) ?_
  refine k_aload_n eX12_changed_106 rfl ?_
  refine GX12_68 eX12_changed_107 rfl ?_
  refine k_aload_n eX12_changed_110 rfl ?_
  refine GX12_138 eX12_changed_111 rfl ?_
  refine k_topi (nI n) hn ?_
  refine k_iload_n eX12_changed_114 rfl ?_
  refine k_iastN (j := n) eX12_changed_115 (ar70 _) (by omega) (Nat.le_of_ble_eq_true rfl) (as70 _ _) ?_
  refine k_aload_n eX12_changed_116 rfl ?_
  refine GX12_71 eX12_changed_117 rfl ?_
  refine k_aload_n eX12_changed_120 rfl ?_
  refine GX12_138 eX12_changed_121 rfl ?_
  refine k_topi (nI n) hn ?_
  refine k_iload_n eX12_changed_124 rfl ?_
  refine k_iastN (j := n) eX12_changed_125 (ar71 _) (by omega) (Nat.le_of_ble_eq_true rfl) (as71 _ _) ?_
  refine k_aload_n eX12_changed_126 rfl ?_
  refine k_dup eX12_changed_127 rfl ?_
  refine GX12_138 eX12_changed_128 rfl ?_
  refine k_topi (nI n) hn ?_
  refine k_iconst (v := nI 1) eX12_changed_131 (by decide) ?_
  refine k_iaddN eX12_changed_132 ?_
  refine PX12_138 eX12_changed_133 rfl ?_
  refine k_aload_n eX12_changed_136 rfl ?_
  refine k_aload_n eX12_changed_137 rfl ?_
  refine GX12_138 eX12_changed_138 rfl ?_
  refine k_topi (nI (n + 1)) rfl ?_
  refine PX12_141 eX12_changed_141 rfl ?_
  refine k_aload_n eX12_changed_144 rfl ?_
  refine k_iload_n eX12_changed_145 rfl ?_
  refine k_iload_n eX12_changed_146 rfl ?_
  refine cV0 (M' := MX12_holds) eX12_changed_147 mX12_144 wX12_holds vX12_holds ⟨_, _, _, rfl, rfl, rfl⟩ rfl (pX12_holds1 (S := (si (si (sa (sa (sa S 69 (va_up ((S).2.1 69) n (nI (120 + p)))) 70 (va_up (((sa S 69 (va_up ((S).2.1 69) n (nI (120 + p))))).2.1 70) n (((S).2.1 53 p)))) 71 (va_up (((sa (sa S 69 (va_up ((S).2.1 69) n (nI (120 + p)))) 70 (va_up (((sa S 69 (va_up ((S).2.1 69) n (nI (120 + p))))).2.1 70) n (((S).2.1 53 p))))).2.1 71) n (v))) 2626 (nI (n + 1))) 2625 (nI (n + 1)))) (p := p) hpp (v)) (by decide) (Nat.le_of_ble_eq_true rfl) ?_
  refine k_iload_n eX12_changed_150 rfl ?_
  refine k_ireturn eX12_changed_151 rfl rfl ?_
  exact ⟨rfl, rfl⟩
set_option maxHeartbeats 400000 in
theorem pX12_changed1f {S : k_S} {p : Nat} (hpp : p < 6) {n : Nat} (hn : S.1 2626 = nI n) (hn40 : n = 40) (v : Int32) (hs : ¬ S.2.1 53 p = v) : Sp 1 0 0 MX12_changed [.ref 52, .int (nI (120 + p)), .int (v)] (hp S) (Rt (some (.int (S.2.1 53 p))) (hp (sa (mchP (mdrS S) 39 (120 + p) (S.2.1 53 p) v) 53 (va_up (S.2.1 53) p v)))) := by
  refine Sp_of (by decide +kernel) (Nat.le_of_ble_eq_true rfl) ?_
  show AW none MX12_changed 1 0 0 0 [.ref 52, .int (nI (120 + p)), .int (v), .null, .null] [] (hp S) _
  refine k_aload_n eX12_changed_0 rfl ?_
  refine k_iload_n eX12_changed_1 rfl ?_
  refine cV1 (M' := MX12_held) eX12_changed_2 mX12_134 wX12_held vX12_held ⟨_, _, _, rfl, rfl, rfl⟩ rfl (pX12_held1 (S := S) (p := p) hpp) (by decide) (Nat.le_of_ble_eq_true rfl) ?_
  refine k_istore_n (L2 := [_, _, _, _, _]) eX12_changed_5 (Nat.le_of_ble_eq_true rfl) rfl ?_
  refine k_iload_n eX12_changed_6 rfl ?_
  refine k_iload_n eX12_changed_7 rfl ?_
  refine k_icmp_ne 13 eX12_changed_8 (by decide) (fun c_8 => ?_) (fun c_8 => by exact absurd c_8 hs)
  refine k_aload_n eX12_changed_13 rfl ?_
  refine GX12_138 eX12_changed_14 rfl ?_
  refine k_topi (nI n) hn ?_
  refine k_bipush (v := nI 40) eX12_changed_17 (by decide) ?_
  refine k_icmp_neN 96 eX12_changed_19 (by decide) (by omega) (by omega) (fun c_19 => by exfalso; omega) (fun c_19 => ?_)
  refine k_iconst (v := nI 1) eX12_changed_22 (by decide) ?_
  refine k_istore (L2 := [_, _, _, _, _]) eX12_changed_23 (Nat.le_of_ble_eq_true rfl) rfl ?_
  refine k_heap (h2 := hp (mdrT S 0)) (congrArg hp (mdrT_0 S).symm) ?_
  refine lX12_changed (by decide) (S := S) (120 + p) v (S.2.1 53 p) ?_ 39 0 (by omega)
  refine k_aload_n eX12_changed_86 rfl ?_
  refine k_dup eX12_changed_87 rfl ?_
  refine GX12_138 eX12_changed_88 rfl ?_
  refine k_topi (nI 40) (show (mdrT S 39).1 2626 = nI 40 from hn.trans (by rw [hn40])) ?_
  refine k_iconst (v := nI 1) eX12_changed_91 (by decide) ?_
  refine k_isubN eX12_changed_92 (by omega) ?_
  refine PX12_138 eX12_changed_93 rfl ?_
  refine k_aload_n eX12_changed_96 rfl ?_
  refine GX12_65 eX12_changed_97 rfl ?_
  refine k_aload_n eX12_changed_100 rfl ?_
  refine GX12_138 eX12_changed_101 rfl ?_
  refine k_topi (nI 39) rfl ?_
  refine k_iload_n eX12_changed_104 rfl ?_
  refine k_iastN (j := 39) eX12_changed_105 (ar69 _) (by omega) (Nat.le_of_ble_eq_true rfl) (as69 _ _) ?_
  refine k_aload_n eX12_changed_106 rfl ?_
  refine GX12_68 eX12_changed_107 rfl ?_
  refine k_aload_n eX12_changed_110 rfl ?_
  refine GX12_138 eX12_changed_111 rfl ?_
  refine k_topi (nI 39) rfl ?_
  refine k_iload_n eX12_changed_114 rfl ?_
  refine k_iastN (j := 39) eX12_changed_115 (ar70 _) (by omega) (Nat.le_of_ble_eq_true rfl) (as70 _ _) ?_
  refine k_aload_n eX12_changed_116 rfl ?_
  refine GX12_71 eX12_changed_117 rfl ?_
  refine k_aload_n eX12_changed_120 rfl ?_
  refine GX12_138 eX12_changed_121 rfl ?_
  refine k_topi (nI 39) rfl ?_
  refine k_iload_n eX12_changed_124 rfl ?_
  refine k_iastN (j := 39) eX12_changed_125 (ar71 _) (by omega) (Nat.le_of_ble_eq_true rfl) (as71 _ _) ?_
  refine k_aload_n eX12_changed_126 rfl ?_
  refine k_dup eX12_changed_127 rfl ?_
  refine GX12_138 eX12_changed_128 rfl ?_
  refine k_topi (nI 39) rfl ?_
  refine k_iconst (v := nI 1) eX12_changed_131 (by decide) ?_
  refine k_iaddN eX12_changed_132 ?_
  refine PX12_138 eX12_changed_133 rfl ?_
  refine k_aload_n eX12_changed_136 rfl ?_
  refine k_aload_n eX12_changed_137 rfl ?_
  refine GX12_138 eX12_changed_138 rfl ?_
  refine k_topi (nI 40) rfl ?_
  refine PX12_141 eX12_changed_141 rfl ?_
  refine k_aload_n eX12_changed_144 rfl ?_
  refine k_iload_n eX12_changed_145 rfl ?_
  refine k_iload_n eX12_changed_146 rfl ?_
  refine cV0 (M' := MX12_holds) eX12_changed_147 mX12_144 wX12_holds vX12_holds ⟨_, _, _, rfl, rfl, rfl⟩ rfl (pX12_holds1 (S := (si (si (sa (sa (sa (si (mdrT S 39) 2626 (nI (40 - 1))) 69 (va_up (((si (mdrT S 39) 2626 (nI (40 - 1)))).2.1 69) 39 (nI (120 + p)))) 70 (va_up (((sa (si (mdrT S 39) 2626 (nI (40 - 1))) 69 (va_up (((si (mdrT S 39) 2626 (nI (40 - 1)))).2.1 69) 39 (nI (120 + p))))).2.1 70) 39 ((S.2.1 53 p)))) 71 (va_up (((sa (sa (si (mdrT S 39) 2626 (nI (40 - 1))) 69 (va_up (((si (mdrT S 39) 2626 (nI (40 - 1)))).2.1 69) 39 (nI (120 + p)))) 70 (va_up (((sa (si (mdrT S 39) 2626 (nI (40 - 1))) 69 (va_up (((si (mdrT S 39) 2626 (nI (40 - 1)))).2.1 69) 39 (nI (120 + p))))).2.1 70) 39 ((S.2.1 53 p))))).2.1 71) 39 (v))) 2626 (nI 40)) 2625 (nI 40))) (p := p) hpp (v)) (by decide) (Nat.le_of_ble_eq_true rfl) ?_
  refine k_iload_n eX12_changed_150 rfl ?_
  refine k_ireturn eX12_changed_151 rfl rfl ?_
  exact ⟨rfl, rfl⟩
theorem pX12_changed1 {S : k_S} {p : Nat} (hpp : p < 6) {n : Nat} (hn : S.1 2626 = nI n) (hn40 : n ≤ 40) (v : Int32) : Sp 1 0 0 MX12_changed [.ref 52, .int (nI (120 + p)), .int v] (hp S) (Rt (some (.int (S.2.1 53 p))) (hp (mtlU S n 53 p (120 + p) v))) := by
  by_cases h : S.2.1 53 p = v
  · rw [mtlU, if_pos h]; exact pX12_changed1s hpp hn hn40 v h
  · by_cases h2 : n = 40
    · rw [mtlU, if_neg h, if_pos h2]; exact pX12_changed1f hpp hn h2 v h
    · rw [mtlU, if_neg h, if_neg h2]; exact pX12_changed1a hpp hn (by omega) v h
set_option maxHeartbeats 400000 in
theorem pX12_undo1 {S : k_S} {n p : Nat} (hn : S.1 2626 = nI (n + 1)) (hn40 : n < 40) (hq : S.2.1 69 n = nI (120 + p)) (hpp : p < 6) : Sp 1 0 0 MX12_undo [.ref 52] (hp S) (Rt (some (.int (nI n))) (hp (sa (si S 2626 (nI n)) 53 (va_up (S.2.1 53) p (S.2.1 70 n))))) := by
  refine Sp_of (by decide +kernel) (Nat.le_of_ble_eq_true rfl) ?_
  show AW none MX12_undo 1 0 0 0 [.ref 52] [] (hp S) _
  refine k_aload_n eX12_undo_0 rfl ?_
  refine GX12_138 eX12_undo_1 rfl ?_
  refine k_topi (nI (n + 1)) hn ?_
  refine k_if_neN 10 eX12_undo_4 (by decide) (by omega) (fun c_4 => ?_) (fun c_4 => by exfalso; omega)
  refine k_aload_n eX12_undo_10 rfl ?_
  refine k_dup eX12_undo_11 rfl ?_
  refine GX12_138 eX12_undo_12 rfl ?_
  refine k_topi (nI (n + 1)) hn ?_
  refine k_iconst (v := nI 1) eX12_undo_15 (by decide) ?_
  refine k_isubN eX12_undo_16 (by omega) ?_
  refine PX12_138 eX12_undo_17 rfl ?_
  refine k_aload_n eX12_undo_20 rfl ?_
  refine k_aload_n eX12_undo_21 rfl ?_
  refine GX12_65 eX12_undo_22 rfl ?_
  refine k_aload_n eX12_undo_25 rfl ?_
  refine GX12_138 eX12_undo_26 rfl ?_
  refine k_topi (nI n) rfl ?_
  refine k_ialdN (j := n) eX12_undo_29 (ar69 _) (by omega) (Nat.le_of_ble_eq_true rfl) ?_
  refine k_topi (nI (120 + p)) hq ?_
  refine k_aload_n eX12_undo_30 rfl ?_
  refine GX12_68 eX12_undo_31 rfl ?_
  refine k_aload_n eX12_undo_34 rfl ?_
  refine GX12_138 eX12_undo_35 rfl ?_
  refine k_topi (nI n) rfl ?_
  refine k_ialdN (j := n) eX12_undo_38 (ar70 _) (by omega) (Nat.le_of_ble_eq_true rfl) ?_
  refine cV0 (M' := MX12_holds) eX12_undo_39 mX12_144 wX12_holds vX12_holds ⟨_, _, _, rfl, rfl, rfl⟩ rfl (pX12_holds1 (S := (si S 2626 (nI ((n + 1) - 1)))) (p := p) hpp (((((si S 2626 (nI ((n + 1) - 1)))).2.1 70) n))) (by decide) (Nat.le_of_ble_eq_true rfl) ?_
  refine k_aload_n eX12_undo_42 rfl ?_
  refine GX12_138 eX12_undo_43 rfl ?_
  refine k_topi (nI n) rfl ?_
  refine k_ireturn eX12_undo_46 rfl rfl ?_
  exact ⟨rfl, rfl⟩
set_option maxHeartbeats 400000 in
theorem pX12_redo1 {S : k_S} {n p c : Nat} (hn : S.1 2626 = nI n) (hn40 : n < c) (hc : S.1 2625 = nI c) (hc40 : c ≤ 40) (hq : S.2.1 69 n = nI (120 + p)) (hpp : p < 6) : Sp 1 0 0 MX12_redo [.ref 52] (hp S) (Rt (some (.int (nI (c - (n + 1))))) (hp (si (sa S 53 (va_up (S.2.1 53) p (S.2.1 71 n))) 2626 (nI (n + 1))))) := by
  refine Sp_of (by decide +kernel) (Nat.le_of_ble_eq_true rfl) ?_
  show AW none MX12_redo 1 0 0 0 [.ref 52] [] (hp S) _
  refine k_aload_n eX12_redo_0 rfl ?_
  refine GX12_138 eX12_redo_1 rfl ?_
  refine k_topi (nI n) hn ?_
  refine k_aload_n eX12_redo_4 rfl ?_
  refine GX12_141 eX12_redo_5 rfl ?_
  refine k_topi (nI c) hc ?_
  refine k_icmp_neN 14 eX12_redo_8 (by decide) (by omega) (by omega) (fun c_8 => ?_) (fun c_8 => by exfalso; omega)
  refine k_aload_n eX12_redo_14 rfl ?_
  refine k_aload_n eX12_redo_15 rfl ?_
  refine GX12_65 eX12_redo_16 rfl ?_
  refine k_aload_n eX12_redo_19 rfl ?_
  refine GX12_138 eX12_redo_20 rfl ?_
  refine k_topi (nI n) hn ?_
  refine k_ialdN (j := n) eX12_redo_23 (ar69 _) (by omega) (Nat.le_of_ble_eq_true rfl) ?_
  refine k_topi (nI (120 + p)) hq ?_
  refine k_aload_n eX12_redo_24 rfl ?_
  refine GX12_71 eX12_redo_25 rfl ?_
  refine k_aload_n eX12_redo_28 rfl ?_
  refine GX12_138 eX12_redo_29 rfl ?_
  refine k_topi (nI n) hn ?_
  refine k_ialdN (j := n) eX12_redo_32 (ar71 _) (by omega) (Nat.le_of_ble_eq_true rfl) ?_
  refine cV0 (M' := MX12_holds) eX12_redo_33 mX12_144 wX12_holds vX12_holds ⟨_, _, _, rfl, rfl, rfl⟩ rfl (pX12_holds1 (S := S) (p := p) hpp ((((S).2.1 71) n))) (by decide) (Nat.le_of_ble_eq_true rfl) ?_
  refine k_aload_n eX12_redo_36 rfl ?_
  refine k_dup eX12_redo_37 rfl ?_
  refine GX12_138 eX12_redo_38 rfl ?_
  refine k_topi (nI n) hn ?_
  refine k_iconst (v := nI 1) eX12_redo_41 (by decide) ?_
  refine k_iaddN eX12_redo_42 ?_
  refine PX12_138 eX12_redo_43 rfl ?_
  refine k_aload_n eX12_redo_46 rfl ?_
  refine GX12_141 eX12_redo_47 rfl ?_
  refine k_topi (nI c) hc ?_
  refine k_aload_n eX12_redo_50 rfl ?_
  refine GX12_138 eX12_redo_51 rfl ?_
  refine k_topi (nI (n + 1)) rfl ?_
  refine k_isubN eX12_redo_54 (by omega) ?_
  refine k_ireturn eX12_redo_55 rfl rfl ?_
  exact ⟨rfl, rfl⟩
set_option maxHeartbeats 400000 in
theorem pX12_held2 {S : k_S} {p : Nat} (hpp : p < 6) : Sp 0 0 0 MX12_held [.ref 52, .int (nI (130 + p))] (hp S) (Rt (some (.int (S.2.1 54 p))) (hp S)) := by
  refine Sp_of (by decide +kernel) (Nat.le_of_ble_eq_true rfl) ?_
  show AW none MX12_held 0 0 0 0 [.ref 52, .int (nI (130 + p))] [] (hp S) _
  refine k_iload_n eX12_held_0 rfl ?_
  refine k_bipush (v := nI 120) eX12_held_1 (by decide) ?_
  refine k_icmp_geN 15 eX12_held_3 (by decide) (by omega) (by omega) (fun c_3 => ?_) (fun c_3 => by exfalso; omega)
  refine k_iload_n eX12_held_15 rfl ?_
  refine k_sipush (v := nI 130) eX12_held_16 (by decide) ?_
  refine k_icmp_geN 34 eX12_held_19 (by decide) (by omega) (by omega) (fun c_19 => ?_) (fun c_19 => by exfalso; omega)
  refine k_aload_n eX12_held_34 rfl ?_
  refine GX12_17 eX12_held_35 rfl ?_
  refine k_iload_n eX12_held_38 rfl ?_
  refine k_sipush (v := nI 130) eX12_held_39 (by decide) ?_
  refine k_isubN eX12_held_42 (by omega) ?_
  refine k_ialdN (j := ((130 + p) - 130)) eX12_held_43 (ar54 _) (by omega) (Nat.le_of_ble_eq_true rfl) ?_
  refine k_ireturn eX12_held_44 rfl rfl ?_
  exact ⟨by rw [show 130 + p - 130 = p by omega], rfl⟩
set_option maxHeartbeats 400000 in
theorem pX12_holds2 {S : k_S} {p : Nat} (hpp : p < 6) (v : Int32) : Sp 0 0 0 MX12_holds [.ref 52, .int (nI (130 + p)), .int (v)] (hp S) (Rt (none) (hp (sa S 54 (va_up (S.2.1 54) p v)))) := by
  refine Sp_of (by decide +kernel) (Nat.le_of_ble_eq_true rfl) ?_
  show AW none MX12_holds 0 0 0 0 [.ref 52, .int (nI (130 + p)), .int (v)] [] (hp S) _
  refine k_iload_n eX12_holds_0 rfl ?_
  refine k_bipush (v := nI 120) eX12_holds_1 (by decide) ?_
  refine k_icmp_geN 16 eX12_holds_3 (by decide) (by omega) (by omega) (fun c_3 => ?_) (fun c_3 => by exfalso; omega)
  refine k_iload_n eX12_holds_16 rfl ?_
  refine k_sipush (v := nI 130) eX12_holds_17 (by decide) ?_
  refine k_icmp_geN 36 eX12_holds_20 (by decide) (by omega) (by omega) (fun c_20 => ?_) (fun c_20 => by exfalso; omega)
  refine k_aload_n eX12_holds_36 rfl ?_
  refine GX12_17 eX12_holds_37 rfl ?_
  refine k_iload_n eX12_holds_40 rfl ?_
  refine k_sipush (v := nI 130) eX12_holds_41 (by decide) ?_
  refine k_isubN eX12_holds_44 (by omega) ?_
  refine k_iload_n eX12_holds_45 rfl ?_
  refine k_iastN (j := ((130 + p) - 130)) eX12_holds_46 (ar54 _) (by omega) (Nat.le_of_ble_eq_true rfl) (as54 _ _) ?_
  refine k_return eX12_holds_47 rfl ?_
  exact ⟨rfl, by rw [show 130 + p - 130 = p by omega]⟩
set_option maxHeartbeats 400000 in
theorem pX12_changed2s {S : k_S} {p : Nat} (hpp : p < 6) {n : Nat} (hn : S.1 2626 = nI n) (hn40 : n ≤ 40) (v : Int32) (hs : S.2.1 54 p = v) : Sp 1 0 0 MX12_changed [.ref 52, .int (nI (130 + p)), .int (v)] (hp S) (Rt (some (.int (S.2.1 54 p))) (hp S)) := by
  refine Sp_of (by decide +kernel) (Nat.le_of_ble_eq_true rfl) ?_
  show AW none MX12_changed 1 0 0 0 [.ref 52, .int (nI (130 + p)), .int (v), .null, .null] [] (hp S) _
  refine k_aload_n eX12_changed_0 rfl ?_
  refine k_iload_n eX12_changed_1 rfl ?_
  refine cV1 (M' := MX12_held) eX12_changed_2 mX12_134 wX12_held vX12_held ⟨_, _, _, rfl, rfl, rfl⟩ rfl (pX12_held2 (S := S) (p := p) hpp) (by decide) (Nat.le_of_ble_eq_true rfl) ?_
  refine k_istore_n (L2 := [_, _, _, _, _]) eX12_changed_5 (Nat.le_of_ble_eq_true rfl) rfl ?_
  refine k_iload_n eX12_changed_6 rfl ?_
  refine k_iload_n eX12_changed_7 rfl ?_
  refine k_icmp_ne 13 eX12_changed_8 (by decide) (fun c_8 => by exact absurd hs c_8) (fun c_8 => ?_)
  refine k_iload_n eX12_changed_11 rfl ?_
  refine k_ireturn eX12_changed_12 rfl rfl ?_
  exact ⟨rfl, rfl⟩
set_option maxHeartbeats 400000 in
theorem pX12_changed2a {S : k_S} {p : Nat} (hpp : p < 6) {n : Nat} (hn : S.1 2626 = nI n) (hn40 : n < 40) (v : Int32) (hs : ¬ S.2.1 54 p = v) : Sp 1 0 0 MX12_changed [.ref 52, .int (nI (130 + p)), .int (v)] (hp S) (Rt (some (.int (S.2.1 54 p))) (hp (sa (mchP S n (130 + p) (S.2.1 54 p) v) 54 (va_up (S.2.1 54) p v)))) := by
  refine Sp_of (by decide +kernel) (Nat.le_of_ble_eq_true rfl) ?_
  show AW none MX12_changed 1 0 0 0 [.ref 52, .int (nI (130 + p)), .int (v), .null, .null] [] (hp S) _
  refine k_aload_n eX12_changed_0 rfl ?_
  refine k_iload_n eX12_changed_1 rfl ?_
  refine cV1 (M' := MX12_held) eX12_changed_2 mX12_134 wX12_held vX12_held ⟨_, _, _, rfl, rfl, rfl⟩ rfl (pX12_held2 (S := S) (p := p) hpp) (by decide) (Nat.le_of_ble_eq_true rfl) ?_
  refine k_istore_n (L2 := [_, _, _, _, _]) eX12_changed_5 (Nat.le_of_ble_eq_true rfl) rfl ?_
  refine k_iload_n eX12_changed_6 rfl ?_
  refine k_iload_n eX12_changed_7 rfl ?_
  refine k_icmp_ne 13 eX12_changed_8 (by decide) (fun c_8 => ?_) (fun c_8 => by exact absurd c_8 hs)
  refine k_aload_n eX12_changed_13 rfl ?_
  refine GX12_138 eX12_changed_14 rfl ?_
  refine k_topi (nI n) hn ?_
  refine k_bipush (v := nI 40) eX12_changed_17 (by decide) ?_
  refine k_icmp_neN 96 eX12_changed_19 (by decide) (by omega) (by omega) (fun c_19 => ?_) (fun c_19 => by exfalso; omega)
  refine k_aload_n eX12_changed_96 rfl ?_
  refine GX12_65 eX12_changed_97 rfl ?_
  refine k_aload_n eX12_changed_100 rfl ?_
  refine GX12_138 eX12_changed_101 rfl ?_
  refine k_topi (nI n) hn ?_
  refine k_iload_n eX12_changed_104 rfl ?_
  refine k_iastN (j := n) eX12_changed_105 (ar69 _) (by omega) (Nat.le_of_ble_eq_true rfl) (as69 _ _) ?_
  refine k_aload_n eX12_changed_106 rfl ?_
  refine GX12_68 eX12_changed_107 rfl ?_
  refine k_aload_n eX12_changed_110 rfl ?_
  refine GX12_138 eX12_changed_111 rfl ?_
  refine k_topi (nI n) hn ?_
  refine k_iload_n eX12_changed_114 rfl ?_
  refine k_iastN (j := n) eX12_changed_115 (ar70 _) (by omega) (Nat.le_of_ble_eq_true rfl) (as70 _ _) ?_
  refine k_aload_n eX12_changed_116 rfl ?_
  refine GX12_71 eX12_changed_117 rfl ?_
  refine k_aload_n eX12_changed_120 rfl ?_
  refine GX12_138 eX12_changed_121 rfl ?_
  refine k_topi (nI n) hn ?_
  refine k_iload_n eX12_changed_124 rfl ?_
  refine k_iastN (j := n) eX12_changed_125 (ar71 _) (by omega) (Nat.le_of_ble_eq_true rfl) (as71 _ _) ?_
  refine k_aload_n eX12_changed_126 rfl ?_
  refine k_dup eX12_changed_127 rfl ?_
  refine GX12_138 eX12_changed_128 rfl ?_
  refine k_topi (nI n) hn ?_
  refine k_iconst (v := nI 1) eX12_changed_131 (by decide) ?_
  refine k_iaddN eX12_changed_132 ?_
  refine PX12_138 eX12_changed_133 rfl ?_
  refine k_aload_n eX12_changed_136 rfl ?_
  refine k_aload_n eX12_changed_137 rfl ?_
  refine GX12_138 eX12_changed_138 rfl ?_
  refine k_topi (nI (n + 1)) rfl ?_
  refine PX12_141 eX12_changed_141 rfl ?_
  refine k_aload_n eX12_changed_144 rfl ?_
  refine k_iload_n eX12_changed_145 rfl ?_
  refine k_iload_n eX12_changed_146 rfl ?_
  refine cV0 (M' := MX12_holds) eX12_changed_147 mX12_144 wX12_holds vX12_holds ⟨_, _, _, rfl, rfl, rfl⟩ rfl (pX12_holds2 (S := (si (si (sa (sa (sa S 69 (va_up ((S).2.1 69) n (nI (130 + p)))) 70 (va_up (((sa S 69 (va_up ((S).2.1 69) n (nI (130 + p))))).2.1 70) n (((S).2.1 54 p)))) 71 (va_up (((sa (sa S 69 (va_up ((S).2.1 69) n (nI (130 + p)))) 70 (va_up (((sa S 69 (va_up ((S).2.1 69) n (nI (130 + p))))).2.1 70) n (((S).2.1 54 p))))).2.1 71) n (v))) 2626 (nI (n + 1))) 2625 (nI (n + 1)))) (p := p) hpp (v)) (by decide) (Nat.le_of_ble_eq_true rfl) ?_
  refine k_iload_n eX12_changed_150 rfl ?_
  refine k_ireturn eX12_changed_151 rfl rfl ?_
  exact ⟨rfl, rfl⟩
set_option maxHeartbeats 400000 in
theorem pX12_changed2f {S : k_S} {p : Nat} (hpp : p < 6) {n : Nat} (hn : S.1 2626 = nI n) (hn40 : n = 40) (v : Int32) (hs : ¬ S.2.1 54 p = v) : Sp 1 0 0 MX12_changed [.ref 52, .int (nI (130 + p)), .int (v)] (hp S) (Rt (some (.int (S.2.1 54 p))) (hp (sa (mchP (mdrS S) 39 (130 + p) (S.2.1 54 p) v) 54 (va_up (S.2.1 54) p v)))) := by
  refine Sp_of (by decide +kernel) (Nat.le_of_ble_eq_true rfl) ?_
  show AW none MX12_changed 1 0 0 0 [.ref 52, .int (nI (130 + p)), .int (v), .null, .null] [] (hp S) _
  refine k_aload_n eX12_changed_0 rfl ?_
  refine k_iload_n eX12_changed_1 rfl ?_
  refine cV1 (M' := MX12_held) eX12_changed_2 mX12_134 wX12_held vX12_held ⟨_, _, _, rfl, rfl, rfl⟩ rfl (pX12_held2 (S := S) (p := p) hpp) (by decide) (Nat.le_of_ble_eq_true rfl) ?_
  refine k_istore_n (L2 := [_, _, _, _, _]) eX12_changed_5 (Nat.le_of_ble_eq_true rfl) rfl ?_
  refine k_iload_n eX12_changed_6 rfl ?_
  refine k_iload_n eX12_changed_7 rfl ?_
  refine k_icmp_ne 13 eX12_changed_8 (by decide) (fun c_8 => ?_) (fun c_8 => by exact absurd c_8 hs)
  refine k_aload_n eX12_changed_13 rfl ?_
  refine GX12_138 eX12_changed_14 rfl ?_
  refine k_topi (nI n) hn ?_
  refine k_bipush (v := nI 40) eX12_changed_17 (by decide) ?_
  refine k_icmp_neN 96 eX12_changed_19 (by decide) (by omega) (by omega) (fun c_19 => by exfalso; omega) (fun c_19 => ?_)
  refine k_iconst (v := nI 1) eX12_changed_22 (by decide) ?_
  refine k_istore (L2 := [_, _, _, _, _]) eX12_changed_23 (Nat.le_of_ble_eq_true rfl) rfl ?_
  refine k_heap (h2 := hp (mdrT S 0)) (congrArg hp (mdrT_0 S).symm) ?_
  refine lX12_changed (by decide) (S := S) (130 + p) v (S.2.1 54 p) ?_ 39 0 (by omega)
  refine k_aload_n eX12_changed_86 rfl ?_
  refine k_dup eX12_changed_87 rfl ?_
  refine GX12_138 eX12_changed_88 rfl ?_
  refine k_topi (nI 40) (show (mdrT S 39).1 2626 = nI 40 from hn.trans (by rw [hn40])) ?_
  refine k_iconst (v := nI 1) eX12_changed_91 (by decide) ?_
  refine k_isubN eX12_changed_92 (by omega) ?_
  refine PX12_138 eX12_changed_93 rfl ?_
  refine k_aload_n eX12_changed_96 rfl ?_
  refine GX12_65 eX12_changed_97 rfl ?_
  refine k_aload_n eX12_changed_100 rfl ?_
  refine GX12_138 eX12_changed_101 rfl ?_
  refine k_topi (nI 39) rfl ?_
  refine k_iload_n eX12_changed_104 rfl ?_
  refine k_iastN (j := 39) eX12_changed_105 (ar69 _) (by omega) (Nat.le_of_ble_eq_true rfl) (as69 _ _) ?_
  refine k_aload_n eX12_changed_106 rfl ?_
  refine GX12_68 eX12_changed_107 rfl ?_
  refine k_aload_n eX12_changed_110 rfl ?_
  refine GX12_138 eX12_changed_111 rfl ?_
  refine k_topi (nI 39) rfl ?_
  refine k_iload_n eX12_changed_114 rfl ?_
  refine k_iastN (j := 39) eX12_changed_115 (ar70 _) (by omega) (Nat.le_of_ble_eq_true rfl) (as70 _ _) ?_
  refine k_aload_n eX12_changed_116 rfl ?_
  refine GX12_71 eX12_changed_117 rfl ?_
  refine k_aload_n eX12_changed_120 rfl ?_
  refine GX12_138 eX12_changed_121 rfl ?_
  refine k_topi (nI 39) rfl ?_
  refine k_iload_n eX12_changed_124 rfl ?_
  refine k_iastN (j := 39) eX12_changed_125 (ar71 _) (by omega) (Nat.le_of_ble_eq_true rfl) (as71 _ _) ?_
  refine k_aload_n eX12_changed_126 rfl ?_
  refine k_dup eX12_changed_127 rfl ?_
  refine GX12_138 eX12_changed_128 rfl ?_
  refine k_topi (nI 39) rfl ?_
  refine k_iconst (v := nI 1) eX12_changed_131 (by decide) ?_
  refine k_iaddN eX12_changed_132 ?_
  refine PX12_138 eX12_changed_133 rfl ?_
  refine k_aload_n eX12_changed_136 rfl ?_
  refine k_aload_n eX12_changed_137 rfl ?_
  refine GX12_138 eX12_changed_138 rfl ?_
  refine k_topi (nI 40) rfl ?_
  refine PX12_141 eX12_changed_141 rfl ?_
  refine k_aload_n eX12_changed_144 rfl ?_
  refine k_iload_n eX12_changed_145 rfl ?_
  refine k_iload_n eX12_changed_146 rfl ?_
  refine cV0 (M' := MX12_holds) eX12_changed_147 mX12_144 wX12_holds vX12_holds ⟨_, _, _, rfl, rfl, rfl⟩ rfl (pX12_holds2 (S := (si (si (sa (sa (sa (si (mdrT S 39) 2626 (nI (40 - 1))) 69 (va_up (((si (mdrT S 39) 2626 (nI (40 - 1)))).2.1 69) 39 (nI (130 + p)))) 70 (va_up (((sa (si (mdrT S 39) 2626 (nI (40 - 1))) 69 (va_up (((si (mdrT S 39) 2626 (nI (40 - 1)))).2.1 69) 39 (nI (130 + p))))).2.1 70) 39 ((S.2.1 54 p)))) 71 (va_up (((sa (sa (si (mdrT S 39) 2626 (nI (40 - 1))) 69 (va_up (((si (mdrT S 39) 2626 (nI (40 - 1)))).2.1 69) 39 (nI (130 + p)))) 70 (va_up (((sa (si (mdrT S 39) 2626 (nI (40 - 1))) 69 (va_up (((si (mdrT S 39) 2626 (nI (40 - 1)))).2.1 69) 39 (nI (130 + p))))).2.1 70) 39 ((S.2.1 54 p))))).2.1 71) 39 (v))) 2626 (nI 40)) 2625 (nI 40))) (p := p) hpp (v)) (by decide) (Nat.le_of_ble_eq_true rfl) ?_
  refine k_iload_n eX12_changed_150 rfl ?_
  refine k_ireturn eX12_changed_151 rfl rfl ?_
  exact ⟨rfl, rfl⟩
theorem pX12_changed2 {S : k_S} {p : Nat} (hpp : p < 6) {n : Nat} (hn : S.1 2626 = nI n) (hn40 : n ≤ 40) (v : Int32) : Sp 1 0 0 MX12_changed [.ref 52, .int (nI (130 + p)), .int v] (hp S) (Rt (some (.int (S.2.1 54 p))) (hp (mtlU S n 54 p (130 + p) v))) := by
  by_cases h : S.2.1 54 p = v
  · rw [mtlU, if_pos h]; exact pX12_changed2s hpp hn hn40 v h
  · by_cases h2 : n = 40
    · rw [mtlU, if_neg h, if_pos h2]; exact pX12_changed2f hpp hn h2 v h
    · rw [mtlU, if_neg h, if_neg h2]; exact pX12_changed2a hpp hn (by omega) v h
set_option maxHeartbeats 400000 in
theorem pX12_undo2 {S : k_S} {n p : Nat} (hn : S.1 2626 = nI (n + 1)) (hn40 : n < 40) (hq : S.2.1 69 n = nI (130 + p)) (hpp : p < 6) : Sp 1 0 0 MX12_undo [.ref 52] (hp S) (Rt (some (.int (nI n))) (hp (sa (si S 2626 (nI n)) 54 (va_up (S.2.1 54) p (S.2.1 70 n))))) := by
  refine Sp_of (by decide +kernel) (Nat.le_of_ble_eq_true rfl) ?_
  show AW none MX12_undo 1 0 0 0 [.ref 52] [] (hp S) _
  refine k_aload_n eX12_undo_0 rfl ?_
  refine GX12_138 eX12_undo_1 rfl ?_
  refine k_topi (nI (n + 1)) hn ?_
  refine k_if_neN 10 eX12_undo_4 (by decide) (by omega) (fun c_4 => ?_) (fun c_4 => by exfalso; omega)
  refine k_aload_n eX12_undo_10 rfl ?_
  refine k_dup eX12_undo_11 rfl ?_
  refine GX12_138 eX12_undo_12 rfl ?_
  refine k_topi (nI (n + 1)) hn ?_
  refine k_iconst (v := nI 1) eX12_undo_15 (by decide) ?_
  refine k_isubN eX12_undo_16 (by omega) ?_
  refine PX12_138 eX12_undo_17 rfl ?_
  refine k_aload_n eX12_undo_20 rfl ?_
  refine k_aload_n eX12_undo_21 rfl ?_
  refine GX12_65 eX12_undo_22 rfl ?_
  refine k_aload_n eX12_undo_25 rfl ?_
  refine GX12_138 eX12_undo_26 rfl ?_
  refine k_topi (nI n) rfl ?_
  refine k_ialdN (j := n) eX12_undo_29 (ar69 _) (by omega) (Nat.le_of_ble_eq_true rfl) ?_
  refine k_topi (nI (130 + p)) hq ?_
  refine k_aload_n eX12_undo_30 rfl ?_
  refine GX12_68 eX12_undo_31 rfl ?_
  refine k_aload_n eX12_undo_34 rfl ?_
  refine GX12_138 eX12_undo_35 rfl ?_
  refine k_topi (nI n) rfl ?_
  refine k_ialdN (j := n) eX12_undo_38 (ar70 _) (by omega) (Nat.le_of_ble_eq_true rfl) ?_
  refine cV0 (M' := MX12_holds) eX12_undo_39 mX12_144 wX12_holds vX12_holds ⟨_, _, _, rfl, rfl, rfl⟩ rfl (pX12_holds2 (S := (si S 2626 (nI ((n + 1) - 1)))) (p := p) hpp (((((si S 2626 (nI ((n + 1) - 1)))).2.1 70) n))) (by decide) (Nat.le_of_ble_eq_true rfl) ?_
  refine k_aload_n eX12_undo_42 rfl ?_
  refine GX12_138 eX12_undo_43 rfl ?_
  refine k_topi (nI n) rfl ?_
  refine k_ireturn eX12_undo_46 rfl rfl ?_
  exact ⟨rfl, rfl⟩
set_option maxHeartbeats 400000 in
theorem pX12_redo2 {S : k_S} {n p c : Nat} (hn : S.1 2626 = nI n) (hn40 : n < c) (hc : S.1 2625 = nI c) (hc40 : c ≤ 40) (hq : S.2.1 69 n = nI (130 + p)) (hpp : p < 6) : Sp 1 0 0 MX12_redo [.ref 52] (hp S) (Rt (some (.int (nI (c - (n + 1))))) (hp (si (sa S 54 (va_up (S.2.1 54) p (S.2.1 71 n))) 2626 (nI (n + 1))))) := by
  refine Sp_of (by decide +kernel) (Nat.le_of_ble_eq_true rfl) ?_
  show AW none MX12_redo 1 0 0 0 [.ref 52] [] (hp S) _
  refine k_aload_n eX12_redo_0 rfl ?_
  refine GX12_138 eX12_redo_1 rfl ?_
  refine k_topi (nI n) hn ?_
  refine k_aload_n eX12_redo_4 rfl ?_
  refine GX12_141 eX12_redo_5 rfl ?_
  refine k_topi (nI c) hc ?_
  refine k_icmp_neN 14 eX12_redo_8 (by decide) (by omega) (by omega) (fun c_8 => ?_) (fun c_8 => by exfalso; omega)
  refine k_aload_n eX12_redo_14 rfl ?_
  refine k_aload_n eX12_redo_15 rfl ?_
  refine GX12_65 eX12_redo_16 rfl ?_
  refine k_aload_n eX12_redo_19 rfl ?_
  refine GX12_138 eX12_redo_20 rfl ?_
  refine k_topi (nI n) hn ?_
  refine k_ialdN (j := n) eX12_redo_23 (ar69 _) (by omega) (Nat.le_of_ble_eq_true rfl) ?_
  refine k_topi (nI (130 + p)) hq ?_
  refine k_aload_n eX12_redo_24 rfl ?_
  refine GX12_71 eX12_redo_25 rfl ?_
  refine k_aload_n eX12_redo_28 rfl ?_
  refine GX12_138 eX12_redo_29 rfl ?_
  refine k_topi (nI n) hn ?_
  refine k_ialdN (j := n) eX12_redo_32 (ar71 _) (by omega) (Nat.le_of_ble_eq_true rfl) ?_
  refine cV0 (M' := MX12_holds) eX12_redo_33 mX12_144 wX12_holds vX12_holds ⟨_, _, _, rfl, rfl, rfl⟩ rfl (pX12_holds2 (S := S) (p := p) hpp ((((S).2.1 71) n))) (by decide) (Nat.le_of_ble_eq_true rfl) ?_
  refine k_aload_n eX12_redo_36 rfl ?_
  refine k_dup eX12_redo_37 rfl ?_
  refine GX12_138 eX12_redo_38 rfl ?_
  refine k_topi (nI n) hn ?_
  refine k_iconst (v := nI 1) eX12_redo_41 (by decide) ?_
  refine k_iaddN eX12_redo_42 ?_
  refine PX12_138 eX12_redo_43 rfl ?_
  refine k_aload_n eX12_redo_46 rfl ?_
  refine GX12_141 eX12_redo_47 rfl ?_
  refine k_topi (nI c) hc ?_
  refine k_aload_n eX12_redo_50 rfl ?_
  refine GX12_138 eX12_redo_51 rfl ?_
  refine k_topi (nI (n + 1)) rfl ?_
  refine k_isubN eX12_redo_54 (by omega) ?_
  refine k_ireturn eX12_redo_55 rfl rfl ?_
  exact ⟨rfl, rfl⟩
set_option maxHeartbeats 400000 in
theorem pX12_undoN {S : k_S} (hn : S.1 2626 = nI 0) : Sp 0 0 0 MX12_undo [.ref 52] (hp S) (Rt (some (.int (-5))) (hp S)) := by
  refine Sp_of (by decide +kernel) (Nat.le_of_ble_eq_true rfl) ?_
  show AW none MX12_undo 0 0 0 0 [.ref 52] [] (hp S) _
  refine k_aload_n eX12_undo_0 rfl ?_
  refine GX12_138 eX12_undo_1 rfl ?_
  refine k_topi (nI 0) hn ?_
  refine k_if_neN 10 eX12_undo_4 (by decide) (by omega) (fun c_4 => by exfalso; omega) (fun c_4 => ?_)
  refine k_bipush (v := (-5)) eX12_undo_7 (by decide) ?_
  refine k_ireturn eX12_undo_9 rfl rfl ?_
  exact ⟨rfl, rfl⟩
set_option maxHeartbeats 400000 in
theorem pX12_redoN {S : k_S} {n : Nat} (hn : S.1 2626 = nI n) (hn40 : n ≤ 40) (hc : S.1 2625 = nI n) : Sp 0 0 0 MX12_redo [.ref 52] (hp S) (Rt (some (.int (-5))) (hp S)) := by
  refine Sp_of (by decide +kernel) (Nat.le_of_ble_eq_true rfl) ?_
  show AW none MX12_redo 0 0 0 0 [.ref 52] [] (hp S) _
  refine k_aload_n eX12_redo_0 rfl ?_
  refine GX12_138 eX12_redo_1 rfl ?_
  refine k_topi (nI n) hn ?_
  refine k_aload_n eX12_redo_4 rfl ?_
  refine GX12_141 eX12_redo_5 rfl ?_
  refine k_topi (nI n) hc ?_
  refine k_icmp_neN 14 eX12_redo_8 (by decide) (by omega) (by omega) (fun c_8 => by exact absurd rfl c_8) (fun c_8 => ?_)
  refine k_bipush (v := (-5)) eX12_redo_11 (by decide) ?_
  refine k_ireturn eX12_redo_13 rfl rfl ?_
  exact ⟨rfl, rfl⟩
def mPln (S : k_S) (n : Nat) (x v : Int32) : k_S := if pD x ∧ pW (S.1 2600) v then mtlU S n 61 (ix x) (ix x) v else S
def mMnd (S : k_S) (n : Nat) (w t v : Int32) : k_S := if pMnd (S.1 2600) w t v then (if t = 0 then mtlU S n 53 (ix w) (120 + ix w) v else mtlU S n 54 (ix w) (130 + ix w) v) else S
set_option maxHeartbeats 400000 in
theorem pX12_plan {S : k_S} {wk : Nat} (hwk : S.1 2600 = nI wk) (hwk6 : wk ≤ 6) {n : Nat} (hn : S.1 2626 = nI n) (hn40 : n ≤ 40) (x v : Int32) : Sp 2 0 0 MX12_plan [.ref 52, .int (x), .int (v)] (hp S) (Rt (some (.int (aPln (S.2.1 61) (S.1 2600) x v))) (hp (mPln S n x v))) := by
  refine Sp_of (by decide +kernel) (Nat.le_of_ble_eq_true rfl) ?_
  show AW none MX12_plan 2 0 0 0 [.ref 52, .int (x), .int (v)] [] (hp S) _
  refine k_iload_n eX12_plan_0 rfl ?_
  refine cS1 (M' := MX12_isDay) eX12_plan_1 mX12_131 wX12_isDay sX12_isDay rfl (pX12_isDay (x)) (by decide) (Nat.le_of_ble_eq_true rfl) ?_
  refine k_ifb_eq 24 eX12_plan_4 (by decide) (fun c_4 => ?_) (fun c_4 => ?_)
  · refine k_iconst (v := (-1)) eX12_plan_24 (by decide) ?_
    refine k_ireturn eX12_plan_25 rfl rfl ?_
    exact ⟨by rw [aPln, if_neg (fun q => by first | exact c_4 q.1 | exact c_12 q.2)], by rw [mPln, if_neg (fun q => by first | exact c_4 q.1 | exact c_12 q.2)]⟩
  refine k_aload_n eX12_plan_7 rfl ?_
  refine k_iload_n eX12_plan_8 rfl ?_
  refine cV1 (M' := MX12_isWork) eX12_plan_9 mX12_153 wX12_isWork vX12_isWork ⟨_, _, _, rfl, rfl, rfl⟩ rfl (pX12_isWork (S := S) (wk := wk) hwk hwk6 (v)) (by decide) (Nat.le_of_ble_eq_true rfl) ?_
  refine k_ifb_eq 24 eX12_plan_12 (by decide) (fun c_12 => ?_) (fun c_12 => ?_)
  · refine k_iconst (v := (-1)) eX12_plan_24 (by decide) ?_
    refine k_ireturn eX12_plan_25 rfl rfl ?_
    exact ⟨by rw [aPln, if_neg (fun q => by first | exact c_4 q.1 | exact c_12 q.2)], by rw [mPln, if_neg (fun q => by first | exact c_4 q.1 | exact c_12 q.2)]⟩
  obtain ⟨p, hpp, rfl⟩ := pD_ex c_4
  refine k_aload_n eX12_plan_15 rfl ?_
  refine k_iload_n eX12_plan_16 rfl ?_
  refine k_iload_n eX12_plan_17 rfl ?_
  refine cV1 (M' := MX12_changed) eX12_plan_18 mX12_149 wX12_changed vX12_changed ⟨_, _, _, rfl, rfl, rfl⟩ rfl (pX12_changed0 (S := S) (p := p) (n := n) (by omega) hn hn40 (v)) (by decide) (Nat.le_of_ble_eq_true rfl) ?_
  refine k_goto 25 eX12_plan_21 (by decide) ?_
  refine k_ireturn eX12_plan_25 rfl rfl ?_
  exact ⟨by rw [aPln, if_pos ⟨c_4, c_12⟩, ix_nI (by omega)], by rw [mPln, if_pos ⟨c_4, c_12⟩, ix_nI (by omega)]⟩
set_option maxHeartbeats 400000 in
theorem pX12_mend {S : k_S} {wk : Nat} (hwk : S.1 2600 = nI wk) (hwk6 : wk ≤ 6) {n : Nat} (hn : S.1 2626 = nI n) (hn40 : n ≤ 40) (w t v : Int32) : Sp 2 0 0 MX12_mend [.ref 52, .int (w), .int (t), .int (v)] (hp S) (Rt (some (.int (aMnd (S.2.1 53) (S.2.1 54) (S.1 2600) w t v))) (hp (mMnd S n w t v))) := by
  refine Sp_of (by decide +kernel) (Nat.le_of_ble_eq_true rfl) ?_
  show AW none MX12_mend 2 0 0 0 [.ref 52, .int (w), .int (t), .int (v)] [] (hp S) _
  refine k_iload_n eX12_mend_0 rfl ?_
  refine k_iconst (v := nI 1) eX12_mend_1 (by decide) ?_
  refine k_aload_n eX12_mend_2 rfl ?_
  refine GX12_7 eX12_mend_3 rfl ?_
  refine k_topi (nI wk) hwk ?_
  refine k_iconst (v := nI 1) eX12_mend_6 (by decide) ?_
  refine k_isub eX12_mend_7 ?_
  refine cS1 (M' := MX12_in) eX12_mend_8 mX12_120 wX12_in sX12_in rfl (pX12_in (w) (nI 1) ((nI wk - nI 1))) (by decide) (Nat.le_of_ble_eq_true rfl) ?_
  refine k_ifb_eq 33 eX12_mend_11 (by decide) (fun c_11 => ?_) (fun c_11 => ?_)
  · refine k_iconst (v := (-1)) eX12_mend_33 (by decide) ?_
    refine k_ireturn eX12_mend_34 rfl rfl ?_
    exact ⟨by rw [aMnd, if_neg (fun q => by first | exact c_11 ((pIn_W1 (k := wk) (by omega) w).mpr ⟨q.1, by rw [← hwk]; exact q.2.1⟩) | exact c_20 q.2.2.1 | exact c_30 q.2.2.2)], by rw [mMnd, if_neg (fun q => by first | exact c_11 ((pIn_W1 (k := wk) (by omega) w).mpr ⟨q.1, by rw [← hwk]; exact q.2.1⟩) | exact c_20 q.2.2.1 | exact c_30 q.2.2.2)]⟩
  refine k_iload_n eX12_mend_14 rfl ?_
  refine k_iconst (v := nI 0) eX12_mend_15 (by decide) ?_
  refine k_iconst (v := nI 1) eX12_mend_16 (by decide) ?_
  refine cS1 (M' := MX12_in) eX12_mend_17 mX12_120 wX12_in sX12_in rfl (pX12_in (t) (nI 0) (nI 1)) (by decide) (Nat.le_of_ble_eq_true rfl) ?_
  refine k_ifb_eq 33 eX12_mend_20 (by decide) (fun c_20 => ?_) (fun c_20 => ?_)
  · refine k_iconst (v := (-1)) eX12_mend_33 (by decide) ?_
    refine k_ireturn eX12_mend_34 rfl rfl ?_
    exact ⟨by rw [aMnd, if_neg (fun q => by first | exact c_11 ((pIn_W1 (k := wk) (by omega) w).mpr ⟨q.1, by rw [← hwk]; exact q.2.1⟩) | exact c_20 q.2.2.1 | exact c_30 q.2.2.2)], by rw [mMnd, if_neg (fun q => by first | exact c_11 ((pIn_W1 (k := wk) (by omega) w).mpr ⟨q.1, by rw [← hwk]; exact q.2.1⟩) | exact c_20 q.2.2.1 | exact c_30 q.2.2.2)]⟩
  refine k_iload_n eX12_mend_23 rfl ?_
  refine k_iconst (v := nI 0) eX12_mend_24 (by decide) ?_
  refine k_bipush (v := nI 99) eX12_mend_25 (by decide) ?_
  refine cS1 (M' := MX12_in) eX12_mend_27 mX12_120 wX12_in sX12_in rfl (pX12_in (v) (nI 0) (nI 99)) (by decide) (Nat.le_of_ble_eq_true rfl) ?_
  refine k_ifb_ne 35 eX12_mend_30 (by decide) (fun c_30 => ?_) (fun c_30 => ?_)
  · have hC : pMnd (S.1 2600) w t v := by
      have q := (pIn_W1 (k := wk) (by omega) w).mp c_11
      rw [← hwk] at q
      exact ⟨q.1, q.2, c_20, c_30⟩
    obtain ⟨p, hpp, rfl⟩ := pW_ex hC.2.1 hwk (by omega)
    refine k_aload_n eX12_mend_35 rfl ?_
    refine k_iload_n eX12_mend_36 rfl ?_
    refine k_if_ne 45 eX12_mend_37 (by decide) (fun c_37 => ?_) (fun c_37 => ?_)
    · refine k_sipush (v := nI 130) eX12_mend_45 (by decide) ?_
      refine k_iload_n eX12_mend_48 rfl ?_
      refine k_iaddN eX12_mend_49 ?_
      refine k_iload_n eX12_mend_50 rfl ?_
      refine cV1 (M' := MX12_changed) eX12_mend_51 mX12_149 wX12_changed vX12_changed ⟨_, _, _, rfl, rfl, rfl⟩ rfl (pX12_changed2 (S := S) (p := p) (n := n) (by omega) hn hn40 (v)) (by decide) (Nat.le_of_ble_eq_true rfl) ?_
      refine k_ireturn eX12_mend_54 rfl rfl ?_
      exact ⟨by rw [aMnd, if_pos hC, if_neg c_37, ix_nI (by omega)], by rw [mMnd, if_pos hC, if_neg c_37, ix_nI (by omega)]⟩
    refine k_bipush (v := nI 120) eX12_mend_40 (by decide) ?_
    refine k_goto 48 eX12_mend_42 (by decide) ?_
    refine k_iload_n eX12_mend_48 rfl ?_
    refine k_iaddN eX12_mend_49 ?_
    refine k_iload_n eX12_mend_50 rfl ?_
    refine cV1 (M' := MX12_changed) eX12_mend_51 mX12_149 wX12_changed vX12_changed ⟨_, _, _, rfl, rfl, rfl⟩ rfl (pX12_changed1 (S := S) (p := p) (n := n) (by omega) hn hn40 (v)) (by decide) (Nat.le_of_ble_eq_true rfl) ?_
    refine k_ireturn eX12_mend_54 rfl rfl ?_
    exact ⟨by rw [aMnd, if_pos hC, if_pos c_37, ix_nI (by omega)], by rw [mMnd, if_pos hC, if_pos c_37, ix_nI (by omega)]⟩
  refine k_iconst (v := (-1)) eX12_mend_33 (by decide) ?_
  refine k_ireturn eX12_mend_34 rfl rfl ?_
  exact ⟨by rw [aMnd, if_neg (fun q => by first | exact c_11 ((pIn_W1 (k := wk) (by omega) w).mpr ⟨q.1, by rw [← hwk]; exact q.2.1⟩) | exact c_20 q.2.2.1 | exact c_30 q.2.2.2)], by rw [mMnd, if_neg (fun q => by first | exact c_11 ((pIn_W1 (k := wk) (by omega) w).mpr ⟨q.1, by rw [← hwk]; exact q.2.1⟩) | exact c_20 q.2.2.1 | exact c_30 q.2.2.2)]⟩
theorem b255 : ∀ i : Fin 32, 8 ≤ i.val → (nI 255).toBitVec[i.val] = false := by decide
theorem fdv_b (v k : Int32) (K : Nat) {i : Nat} (hi : i < 32) (hK : K ≤ 24) (h : i < 8) (e1 : ((k.toBitVec &&& Int32.toBitVec 31).smod 32).toNat = K) (e3 : (k.toBitVec.toNat &&& 31) % 32 = K) : (v.toBitVec.sshiftRight' ((k.toBitVec &&& Int32.toBitVec 31).smod 32))[i] = (v.toUInt32 >>> (k.toUInt32 &&& Int32.toUInt32 31)).toInt32.toBitVec[i] := by
  rw [BitVec.sshiftRight', BitVec.getElem_sshiftRight, e1]
  simp [e3]
  rw [dif_pos (by omega), BitVec.getLsbD_eq_getElem]
theorem fdv_s (v : Int32) {j : Nat} (hj : j < 4) : ((v >>> (nI (8 * j) &&& 31)) &&& nI 255) = fdv v j := by
  rw [fdv]
  rcases (by omega : j = 0 ∨ j = 1 ∨ j = 2 ∨ j = 3) with rfl | rfl | rfl | rfl
  all_goals
    apply Int32.toBitVec_inj.mp
    ext i hi
    simp only [Int32.toBitVec_and, Int32.toBitVec_shiftRight, BitVec.getElem_and]
    by_cases h : i < 8
    · congr 1
      first | exact fdv_b v _ 0 hi (by decide) h (by decide) (by decide) | exact fdv_b v _ 8 hi (by decide) h (by decide) (by decide) | exact fdv_b v _ 16 hi (by decide) h (by decide) (by decide) | exact fdv_b v _ 24 hi (by decide) h (by decide) (by decide)
    · rw [b255 ⟨i, hi⟩ (by simpa using h), Bool.and_false, Bool.and_false]

def mfdT (S : k_S) (tp : Nat) (v : Int32) : Nat → k_S
  | 0 => S
  | j + 1 => si (sa (mfdT S tp v j) 64 (va_up ((mfdT S tp v j).2.1 64) (tp + j) (fdv v j))) 2615 (nI (tp + j + 1))
theorem mfdT_15 {S : k_S} {tp : Nat} (v : Int32) (h : S.1 2615 = nI tp) : ∀ j, (mfdT S tp v j).1 2615 = nI (tp + j)
  | 0 => h
  | _ + 1 => rfl
def mFed (S : k_S) (tp : Nat) (n v : Int32) : k_S := if pIn n (nI 1) (nI 4) then (if 120 < tp + ix n then S else mfdT S tp v (ix n)) else S
set_option maxHeartbeats 400000 in
theorem lX12_feed {d : Nat} {Po : Option Value → k_H → Prop} (hdd : 0 ≤ d) {S : k_S} {tp : Nat} (htp : S.1 2615 = nI tp) (htp120 : tp ≤ 120) {m : Nat} (hm : m ≤ 4) (hfit : tp + m ≤ 120) (v : Int32) (kx : AW none MX12_feed d 0 0 67 [.ref 52, .int (nI m), .int (v), .int (nI m)] [] (hp (mfdT S tp v m)) Po) : ∀ (n j : Nat), j + n = m → AW none MX12_feed d 0 0 27 [.ref 52, .int (nI m), .int (v), .int (nI j)] [] (hp (mfdT S tp v j)) Po := by
  intro n
  induction n with
  | zero =>
    intro j hj
    rw [show j = m by omega]
    refine k_iload_n eX12_feed_27 rfl ?_
    refine k_iload_n eX12_feed_28 rfl ?_
    refine k_icmp_geN 67 eX12_feed_29 (by decide) (by omega) (by omega) (fun c_29 => ?_) (fun c_29 => by exfalso; omega)
    exact kx
  | succ n ih =>
    intro j hj
    obtain ⟨T, hT⟩ : ∃ T, mfdT S tp v j = T := ⟨_, rfl⟩
    have hT11 : T.1 2615 = nI (tp + j) := by rw [← hT]; exact mfdT_15 v htp j
    rw [hT]
    refine k_iload_n eX12_feed_27 rfl ?_
    refine k_iload_n eX12_feed_28 rfl ?_
    refine k_icmp_geN 67 eX12_feed_29 (by decide) (by omega) (by omega) (fun c_29 => by exfalso; omega) (fun c_29 => ?_)
    refine k_aload_n eX12_feed_32 rfl ?_
    refine GX12_47 eX12_feed_33 rfl ?_
    refine k_aload_n eX12_feed_36 rfl ?_
    refine GX12_203 eX12_feed_37 rfl ?_
    refine k_topi (nI (tp + j)) hT11 ?_
    refine k_iload_n eX12_feed_40 rfl ?_
    refine k_bipush (v := nI 8) eX12_feed_41 (by decide) ?_
    refine k_iload_n eX12_feed_43 rfl ?_
    refine k_imulN eX12_feed_44 ?_
    refine k_ishr eX12_feed_45 ?_
    refine k_sipush (v := nI 255) eX12_feed_46 (by decide) ?_
    refine k_iand eX12_feed_49 ?_
    refine k_topi ((fdv v j)) (fdv_s v (by omega)) ?_
    refine k_iastN (j := (tp + j)) eX12_feed_50 (ar64 _) (by omega) (Nat.le_of_ble_eq_true rfl) (as64 _ _) ?_
    refine k_aload_n eX12_feed_51 rfl ?_
    refine k_dup eX12_feed_52 rfl ?_
    refine GX12_203 eX12_feed_53 rfl ?_
    refine k_topi (nI (tp + j)) hT11 ?_
    refine k_iconst (v := nI 1) eX12_feed_56 (by decide) ?_
    refine k_iaddN eX12_feed_57 ?_
    refine PX12_203 eX12_feed_58 rfl ?_
    refine k_iincN (g := 1) (a := j) (L2 := [_, _, _, _]) eX12_feed_61 (Nat.le_of_ble_eq_true rfl) rfl rfl ?_
    refine k_goto 27 eX12_feed_64 (by decide) ?_
    have q := ih (j + 1) (by omega)
    rw [mfdT, hT] at q
    exact q
set_option maxHeartbeats 400000 in
theorem pX12_feed {S : k_S} {tp : Nat} (htp : S.1 2615 = nI tp) (htp120 : tp ≤ 120) (x v : Int32) : Sp 1 0 0 MX12_feed [.ref 52, .int (x), .int (v)] (hp S) (Rt (some (.int (aFed tp x))) (hp (mFed S tp x v))) := by
  refine Sp_of (by decide +kernel) (Nat.le_of_ble_eq_true rfl) ?_
  show AW none MX12_feed 1 0 0 0 [.ref 52, .int (x), .int (v), .null] [] (hp S) _
  refine k_iload_n eX12_feed_0 rfl ?_
  refine k_iconst (v := nI 1) eX12_feed_1 (by decide) ?_
  refine k_iconst (v := nI 4) eX12_feed_2 (by decide) ?_
  refine cS1 (M' := MX12_in) eX12_feed_3 mX12_120 wX12_in sX12_in rfl (pX12_in (x) (nI 1) (nI 4)) (by decide) (Nat.le_of_ble_eq_true rfl) ?_
  refine k_ifb_ne 11 eX12_feed_6 (by decide) (fun c_6 => ?_) (fun c_6 => ?_)
  · obtain ⟨m, hm, rfl⟩ := k_rngle (Int32.le_trans (by decide) c_6.1) c_6.2 (by decide)
    refine k_aload_n eX12_feed_11 rfl ?_
    refine GX12_203 eX12_feed_12 rfl ?_
    refine k_topi (nI tp) htp ?_
    refine k_iload_n eX12_feed_15 rfl ?_
    refine k_iaddN eX12_feed_16 ?_
    refine k_bipush (v := nI 120) eX12_feed_17 (by decide) ?_
    refine k_icmp_leN 25 eX12_feed_19 (by decide) (by omega) (by omega) (fun c_19 => ?_) (fun c_19 => ?_)
    · refine k_iconst (v := nI 0) eX12_feed_25 (by decide) ?_
      refine k_istore_n (L2 := [_, _, _, _]) eX12_feed_26 (Nat.le_of_ble_eq_true rfl) rfl ?_
      refine lX12_feed (by decide) (S := S) htp htp120 (m := m) hm (by omega) v ?_ m 0 (by omega)
      refine k_aload_n eX12_feed_67 rfl ?_
      refine GX12_203 eX12_feed_68 rfl ?_
      refine k_topi (nI (tp + m)) (mfdT_15 v htp m) ?_
      refine k_ireturn eX12_feed_71 rfl rfl ?_
      exact ⟨by rw [aFed, if_pos c_6, ix_nI (by omega), if_neg (by omega)], by rw [mFed, if_pos c_6, ix_nI (by omega), if_neg (by omega)]⟩
    refine k_bipush (v := (-3)) eX12_feed_22 (by decide) ?_
    refine k_ireturn eX12_feed_24 rfl rfl ?_
    exact ⟨by rw [aFed, if_pos c_6, ix_nI (by omega), if_pos (by omega)], by rw [mFed, if_pos c_6, ix_nI (by omega), if_pos (by omega)]⟩
  refine k_iconst (v := (-1)) eX12_feed_9 (by decide) ?_
  refine k_ireturn eX12_feed_10 rfl rfl ?_
  exact ⟨by rw [aFed, if_neg c_6], by rw [mFed, if_neg c_6]⟩
def mLos (S : k_S) (x : Int32) : k_S := if pIn x (nI 1) (nI 60) then si S 2618 x else S
def mTst (S : k_S) (tn : Nat) (x f : Int32) : k_S := if pTst x f then (if tn = 10 then S else si (sa (sa S 67 (va_up (S.2.1 67) tn x)) 68 (va_up (S.2.1 68) tn f)) 2619 (nI (tn + 1))) else S
def mBod (S : k_S) (bn : Nat) (k : Int32) : k_S := if pIn k (nI 0) (nI 7) then (if bn = 50 then S else si (sa S 72 (va_up (S.2.1 72) bn k)) 2627 (nI (bn + 1))) else S
set_option maxHeartbeats 400000 in
theorem pX12_lost {S : k_S} (x : Int32) : Sp 1 0 0 MX12_lost [.ref 52, .int (x)] (hp S) (Rt (some (.int (aLost (S.1 2618) x))) (hp (mLos S x))) := by
  refine Sp_of (by decide +kernel) (Nat.le_of_ble_eq_true rfl) ?_
  show AW none MX12_lost 1 0 0 0 [.ref 52, .int (x), .null] [] (hp S) _
  refine k_iload_n eX12_lost_0 rfl ?_
  refine k_iconst (v := nI 1) eX12_lost_1 (by decide) ?_
  refine k_bipush (v := nI 60) eX12_lost_2 (by decide) ?_
  refine cS1 (M' := MX12_in) eX12_lost_4 mX12_120 wX12_in sX12_in rfl (pX12_in (x) (nI 1) (nI 60)) (by decide) (Nat.le_of_ble_eq_true rfl) ?_
  refine k_ifb_ne 12 eX12_lost_7 (by decide) (fun c_7 => ?_) (fun c_7 => ?_)
  · refine k_aload_n eX12_lost_12 rfl ?_
    refine GX12_56 eX12_lost_13 rfl ?_
    refine k_istore_n (L2 := [_, _, _]) eX12_lost_16 (Nat.le_of_ble_eq_true rfl) rfl ?_
    refine k_aload_n eX12_lost_17 rfl ?_
    refine k_iload_n eX12_lost_18 rfl ?_
    refine PX12_56 eX12_lost_19 rfl ?_
    refine k_iload_n eX12_lost_22 rfl ?_
    refine k_ireturn eX12_lost_23 rfl rfl ?_
    exact ⟨by rw [aLost, if_pos c_7], by rw [mLos, if_pos c_7]⟩
  refine k_iconst (v := (-1)) eX12_lost_10 (by decide) ?_
  refine k_ireturn eX12_lost_11 rfl rfl ?_
  exact ⟨by rw [aLost, if_neg c_7], by rw [mLos, if_neg c_7]⟩
set_option maxHeartbeats 400000 in
theorem pX12_test {S : k_S} {tn : Nat} (htn : S.1 2619 = nI tn) (htn10 : tn ≤ 10) (x f : Int32) : Sp 2 0 0 MX12_test [.ref 52, .int (x), .int (f)] (hp S) (Rt (some (.int (aTst tn x f))) (hp (mTst S tn x f))) := by
  refine Sp_of (by decide +kernel) (Nat.le_of_ble_eq_true rfl) ?_
  show AW none MX12_test 2 0 0 0 [.ref 52, .int (x), .int (f)] [] (hp S) _
  refine k_iload_n eX12_test_0 rfl ?_
  refine cS1 (M' := MX12_isDay) eX12_test_1 mX12_131 wX12_isDay sX12_isDay rfl (pX12_isDay (x)) (by decide) (Nat.le_of_ble_eq_true rfl) ?_
  refine k_ifb_eq 20 eX12_test_4 (by decide) (fun c_4 => ?_) (fun c_4 => ?_)
  · refine k_iconst (v := (-1)) eX12_test_20 (by decide) ?_
    refine k_ireturn eX12_test_21 rfl rfl ?_
    exact ⟨by rw [aTst, if_neg (fun q => by first | exact c_4 q.1 | exact c_17 q.2)], by rw [mTst, if_neg (fun q => by first | exact c_4 q.1 | exact c_17 q.2)]⟩
  refine k_iload_n eX12_test_7 rfl ?_
  refine k_sipush (v := (-9999)) eX12_test_8 (by decide) ?_
  refine k_sipush (v := nI 9999) eX12_test_11 (by decide) ?_
  refine cS1 (M' := MX12_in) eX12_test_14 mX12_120 wX12_in sX12_in rfl (pX12_in (f) ((-9999)) (nI 9999)) (by decide) (Nat.le_of_ble_eq_true rfl) ?_
  refine k_ifb_ne 22 eX12_test_17 (by decide) (fun c_17 => ?_) (fun c_17 => ?_)
  · refine k_aload_n eX12_test_22 rfl ?_
    refine GX12_294 eX12_test_23 rfl ?_
    refine k_topi (nI tn) htn ?_
    refine k_bipush (v := nI 10) eX12_test_26 (by decide) ?_
    refine k_icmp_neN 34 eX12_test_28 (by decide) (by omega) (by omega) (fun c_28 => ?_) (fun c_28 => ?_)
    · refine k_aload_n eX12_test_34 rfl ?_
      refine GX12_59 eX12_test_35 rfl ?_
      refine k_aload_n eX12_test_38 rfl ?_
      refine GX12_294 eX12_test_39 rfl ?_
      refine k_topi (nI tn) htn ?_
      refine k_iload_n eX12_test_42 rfl ?_
      refine k_iastN (j := tn) eX12_test_43 (ar67 _) (by omega) (Nat.le_of_ble_eq_true rfl) (as67 _ _) ?_
      refine k_aload_n eX12_test_44 rfl ?_
      refine GX12_62 eX12_test_45 rfl ?_
      refine k_aload_n eX12_test_48 rfl ?_
      refine GX12_294 eX12_test_49 rfl ?_
      refine k_topi (nI tn) htn ?_
      refine k_iload_n eX12_test_52 rfl ?_
      refine k_iastN (j := tn) eX12_test_53 (ar68 _) (by omega) (Nat.le_of_ble_eq_true rfl) (as68 _ _) ?_
      refine k_aload_n eX12_test_54 rfl ?_
      refine k_dup eX12_test_55 rfl ?_
      refine GX12_294 eX12_test_56 rfl ?_
      refine k_topi (nI tn) htn ?_
      refine k_iconst (v := nI 1) eX12_test_59 (by decide) ?_
      refine k_iaddN eX12_test_60 ?_
      refine PX12_294 eX12_test_61 rfl ?_
      refine k_aload_n eX12_test_64 rfl ?_
      refine GX12_294 eX12_test_65 rfl ?_
      refine k_topi (nI (tn + 1)) rfl ?_
      refine k_iconst (v := nI 1) eX12_test_68 (by decide) ?_
      refine k_isubN eX12_test_69 (by omega) ?_
      refine k_ireturn eX12_test_70 rfl rfl ?_
      exact ⟨by rw [aTst, if_pos ⟨c_4, c_17⟩, fulV, if_neg c_28] <;> rfl, by rw [mTst, if_pos ⟨c_4, c_17⟩, if_neg c_28] <;> rfl⟩
    refine k_bipush (v := (-3)) eX12_test_31 (by decide) ?_
    refine k_ireturn eX12_test_33 rfl rfl ?_
    exact ⟨by rw [aTst, if_pos ⟨c_4, c_17⟩, fulV, if_pos c_28], by rw [mTst, if_pos ⟨c_4, c_17⟩, if_pos c_28]⟩
  refine k_iconst (v := (-1)) eX12_test_20 (by decide) ?_
  refine k_ireturn eX12_test_21 rfl rfl ?_
  exact ⟨by rw [aTst, if_neg (fun q => by first | exact c_4 q.1 | exact c_17 q.2)], by rw [mTst, if_neg (fun q => by first | exact c_4 q.1 | exact c_17 q.2)]⟩
set_option maxHeartbeats 400000 in
theorem pX12_body {S : k_S} {bn : Nat} (hbn : S.1 2627 = nI bn) (hbn50 : bn ≤ 50) (k : Int32) : Sp 1 0 0 MX12_body [.ref 52, .int (k)] (hp S) (Rt (some (.int (aBod bn k))) (hp (mBod S bn k))) := by
  refine Sp_of (by decide +kernel) (Nat.le_of_ble_eq_true rfl) ?_
  show AW none MX12_body 1 0 0 0 [.ref 52, .int (k)] [] (hp S) _
  refine k_iload_n eX12_body_0 rfl ?_
  refine k_iconst (v := nI 0) eX12_body_1 (by decide) ?_
  refine k_bipush (v := nI 7) eX12_body_2 (by decide) ?_
  refine cS1 (M' := MX12_in) eX12_body_4 mX12_120 wX12_in sX12_in rfl (pX12_in (k) (nI 0) (nI 7)) (by decide) (Nat.le_of_ble_eq_true rfl) ?_
  refine k_ifb_ne 12 eX12_body_7 (by decide) (fun c_7 => ?_) (fun c_7 => ?_)
  · refine k_aload_n eX12_body_12 rfl ?_
    refine GX12_302 eX12_body_13 rfl ?_
    refine k_topi (nI bn) hbn ?_
    refine k_bipush (v := nI 50) eX12_body_16 (by decide) ?_
    refine k_icmp_neN 24 eX12_body_18 (by decide) (by omega) (by omega) (fun c_18 => ?_) (fun c_18 => ?_)
    · refine k_aload_n eX12_body_24 rfl ?_
      refine GX12_74 eX12_body_25 rfl ?_
      refine k_aload_n eX12_body_28 rfl ?_
      refine GX12_302 eX12_body_29 rfl ?_
      refine k_topi (nI bn) hbn ?_
      refine k_iload_n eX12_body_32 rfl ?_
      refine k_iastN (j := bn) eX12_body_33 (ar72 _) (by omega) (Nat.le_of_ble_eq_true rfl) (as72 _ _) ?_
      refine k_aload_n eX12_body_34 rfl ?_
      refine k_dup eX12_body_35 rfl ?_
      refine GX12_302 eX12_body_36 rfl ?_
      refine k_topi (nI bn) hbn ?_
      refine k_iconst (v := nI 1) eX12_body_39 (by decide) ?_
      refine k_iaddN eX12_body_40 ?_
      refine PX12_302 eX12_body_41 rfl ?_
      refine k_aload_n eX12_body_44 rfl ?_
      refine GX12_302 eX12_body_45 rfl ?_
      refine k_topi (nI (bn + 1)) rfl ?_
      refine k_iconst (v := nI 1) eX12_body_48 (by decide) ?_
      refine k_isubN eX12_body_49 (by omega) ?_
      refine k_ireturn eX12_body_50 rfl rfl ?_
      exact ⟨by rw [aBod, if_pos c_7, fulV, if_neg c_18] <;> rfl, by rw [mBod, if_pos c_7, if_neg c_18] <;> rfl⟩
    refine k_bipush (v := (-3)) eX12_body_21 (by decide) ?_
    refine k_ireturn eX12_body_23 rfl rfl ?_
    exact ⟨by rw [aBod, if_pos c_7, fulV, if_pos c_18], by rw [mBod, if_pos c_7, if_pos c_18]⟩
  refine k_iconst (v := (-1)) eX12_body_10 (by decide) ?_
  refine k_ireturn eX12_body_11 rfl rfl ?_
  exact ⟨by rw [aBod, if_neg c_7], by rw [mBod, if_neg c_7]⟩
