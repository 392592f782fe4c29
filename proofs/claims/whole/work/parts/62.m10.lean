set_option maxHeartbeats 400000 in
theorem pX12_asOne0 {h : k_H} : Sp 0 0 0 MX12_asOne [.int (nI 0)] h (Rt (some (.int (nI 0))) (h)) := by
  refine Sp_of (by decide +kernel) (Nat.le_of_ble_eq_true rfl) ?_
  show AW none MX12_asOne 0 0 0 0 [.int (nI 0)] [] h _
  refine k_iload_n eX12_asOne_0 rfl ?_
  refine k_if_eqN 8 eX12_asOne_1 (by decide) (by omega) (fun c_1 => ?_) (fun c_1 => by exfalso; omega)
  refine k_iconst (v := nI 0) eX12_asOne_8 (by decide) ?_
  refine k_ireturn eX12_asOne_9 rfl rfl ?_
  exact ⟨rfl, rfl⟩
set_option maxHeartbeats 400000 in
theorem pX12_asOne1 {h : k_H} : Sp 0 0 0 MX12_asOne [.int (nI 1)] h (Rt (some (.int (nI 1))) (h)) := by
  refine Sp_of (by decide +kernel) (Nat.le_of_ble_eq_true rfl) ?_
  show AW none MX12_asOne 0 0 0 0 [.int (nI 1)] [] h _
  refine k_iload_n eX12_asOne_0 rfl ?_
  refine k_if_eqN 8 eX12_asOne_1 (by decide) (by omega) (fun c_1 => by exfalso; omega) (fun c_1 => ?_)
  refine k_iconst (v := nI 1) eX12_asOne_4 (by decide) ?_
  refine k_goto 9 eX12_asOne_5 (by decide) ?_
  refine k_ireturn eX12_asOne_9 rfl rfl ?_
  exact ⟨rfl, rfl⟩
set_option maxHeartbeats 400000 in
theorem pX12_two11 {h : k_H} (a b : Int32) : Sp 1 0 0 MX12_two [.int (nI 11), .int (a), .int (b)] h (Rt (some (.int (b2i (a ≠ 0 ∨ b ≠ 0)))) (h)) := by
  refine Sp_of (by decide +kernel) (Nat.le_of_ble_eq_true rfl) ?_
  show AW none MX12_two 1 0 0 0 [.int (nI 11), .int (a), .int (b)] [] h _
  refine k_iload_n eX12_two_0 rfl ?_
  refine k_tabIn 60 (off := 59) eX12_two_1 (by decide) (by decide) (by decide) (by decide) ?_
  refine k_iload_n eX12_two_60 rfl ?_
  refine k_if_ne 68 eX12_two_61 (by decide) (fun c_61 => ?_) (fun c_61 => ?_)
  · refine k_iconst (v := nI 1) eX12_two_68 (by decide) ?_
    refine k_goto 73 eX12_two_69 (by decide) ?_
    refine cS1 (M' := MX12_asOne) eX12_two_73 mX12_256 wX12_asOne sX12_asOne rfl (pX12_asOne1) (by decide) (Nat.le_of_ble_eq_true rfl) ?_
    refine k_ireturn eX12_two_76 rfl rfl ?_
    exact ⟨rt_t (by first | exact Or.inl c_61 | exact Or.inr c_65), rfl⟩
  refine k_iload_n eX12_two_64 rfl ?_
  refine k_if_eq 72 eX12_two_65 (by decide) (fun c_65 => ?_) (fun c_65 => ?_)
  · refine k_iconst (v := nI 0) eX12_two_72 (by decide) ?_
    refine cS1 (M' := MX12_asOne) eX12_two_73 mX12_256 wX12_asOne sX12_asOne rfl (pX12_asOne0) (by decide) (Nat.le_of_ble_eq_true rfl) ?_
    refine k_ireturn eX12_two_76 rfl rfl ?_
    exact ⟨rt_f (fun q => by first | exact q.elim (fun z => z c_61) (fun z => z c_65)), rfl⟩
  refine k_iconst (v := nI 1) eX12_two_68 (by decide) ?_
  refine k_goto 73 eX12_two_69 (by decide) ?_
  refine cS1 (M' := MX12_asOne) eX12_two_73 mX12_256 wX12_asOne sX12_asOne rfl (pX12_asOne1) (by decide) (Nat.le_of_ble_eq_true rfl) ?_
  refine k_ireturn eX12_two_76 rfl rfl ?_
  exact ⟨rt_t (by first | exact Or.inl c_61 | exact Or.inr c_65), rfl⟩
set_option maxHeartbeats 400000 in
theorem pX12_two12 {h : k_H} (a b : Int32) : Sp 1 0 0 MX12_two [.int (nI 12), .int (a), .int (b)] h (Rt (some (.int (b2i (a ≠ 0 ∧ b ≠ 0)))) (h)) := by
  refine Sp_of (by decide +kernel) (Nat.le_of_ble_eq_true rfl) ?_
  show AW none MX12_two 1 0 0 0 [.int (nI 12), .int (a), .int (b)] [] h _
  refine k_iload_n eX12_two_0 rfl ?_
  refine k_tabIn 77 (off := 76) eX12_two_1 (by decide) (by decide) (by decide) (by decide) ?_
  refine k_iload_n eX12_two_77 rfl ?_
  refine k_if_eq 89 eX12_two_78 (by decide) (fun c_78 => ?_) (fun c_78 => ?_)
  · refine k_iconst (v := nI 0) eX12_two_89 (by decide) ?_
    refine cS1 (M' := MX12_asOne) eX12_two_90 mX12_256 wX12_asOne sX12_asOne rfl (pX12_asOne0) (by decide) (Nat.le_of_ble_eq_true rfl) ?_
    refine k_ireturn eX12_two_93 rfl rfl ?_
    exact ⟨rt_f (fun q => by first | exact q.1 c_78 | exact q.2 c_82), rfl⟩
  refine k_iload_n eX12_two_81 rfl ?_
  refine k_if_eq 89 eX12_two_82 (by decide) (fun c_82 => ?_) (fun c_82 => ?_)
  · refine k_iconst (v := nI 0) eX12_two_89 (by decide) ?_
    refine cS1 (M' := MX12_asOne) eX12_two_90 mX12_256 wX12_asOne sX12_asOne rfl (pX12_asOne0) (by decide) (Nat.le_of_ble_eq_true rfl) ?_
    refine k_ireturn eX12_two_93 rfl rfl ?_
    exact ⟨rt_f (fun q => by first | exact q.1 c_78 | exact q.2 c_82), rfl⟩
  refine k_iconst (v := nI 1) eX12_two_85 (by decide) ?_
  refine k_goto 90 eX12_two_86 (by decide) ?_
  refine cS1 (M' := MX12_asOne) eX12_two_90 mX12_256 wX12_asOne sX12_asOne rfl (pX12_asOne1) (by decide) (Nat.le_of_ble_eq_true rfl) ?_
  refine k_ireturn eX12_two_93 rfl rfl ?_
  exact ⟨rt_t ⟨c_78, c_82⟩, rfl⟩
set_option maxHeartbeats 400000 in
theorem pX12_two14 {h : k_H} (a b : Int32) : Sp 1 0 0 MX12_two [.int (nI 14), .int (a), .int (b)] h (Rt (some (.int (b2i (a < b)))) (h)) := by
  refine Sp_of (by decide +kernel) (Nat.le_of_ble_eq_true rfl) ?_
  show AW none MX12_two 1 0 0 0 [.int (nI 14), .int (a), .int (b)] [] h _
  refine k_iload_n eX12_two_0 rfl ?_
  refine k_tabIn 94 (off := 93) eX12_two_1 (by decide) (by decide) (by decide) (by decide) ?_
  refine k_iload_n eX12_two_94 rfl ?_
  refine k_iload_n eX12_two_95 rfl ?_
  refine k_icmp_ge 103 eX12_two_96 (by decide) (fun c_96 => ?_) (fun c_96 => ?_)
  · refine k_iconst (v := nI 0) eX12_two_103 (by decide) ?_
    refine cS1 (M' := MX12_asOne) eX12_two_104 mX12_256 wX12_asOne sX12_asOne rfl (pX12_asOne0) (by decide) (Nat.le_of_ble_eq_true rfl) ?_
    refine k_ireturn eX12_two_107 rfl rfl ?_
    exact ⟨rt_f (Int32.not_lt.mpr c_96), rfl⟩
  refine k_iconst (v := nI 1) eX12_two_99 (by decide) ?_
  refine k_goto 104 eX12_two_100 (by decide) ?_
  refine cS1 (M' := MX12_asOne) eX12_two_104 mX12_256 wX12_asOne sX12_asOne rfl (pX12_asOne1) (by decide) (Nat.le_of_ble_eq_true rfl) ?_
  refine k_ireturn eX12_two_107 rfl rfl ?_
  exact ⟨rt_t (Int32.not_le.mp c_96), rfl⟩
set_option maxHeartbeats 400000 in
theorem pX12_two15 {h : k_H} (a b : Int32) : Sp 1 0 0 MX12_two [.int (nI 15), .int (a), .int (b)] h (Rt (some (.int (b2i (a = b)))) (h)) := by
  refine Sp_of (by decide +kernel) (Nat.le_of_ble_eq_true rfl) ?_
  show AW none MX12_two 1 0 0 0 [.int (nI 15), .int (a), .int (b)] [] h _
  refine k_iload_n eX12_two_0 rfl ?_
  refine k_tabIn 108 (off := 107) eX12_two_1 (by decide) (by decide) (by decide) (by decide) ?_
  refine k_iload_n eX12_two_108 rfl ?_
  refine k_iload_n eX12_two_109 rfl ?_
  refine k_icmp_ne 117 eX12_two_110 (by decide) (fun c_110 => ?_) (fun c_110 => ?_)
  · refine k_iconst (v := nI 0) eX12_two_117 (by decide) ?_
    refine cS1 (M' := MX12_asOne) eX12_two_118 mX12_256 wX12_asOne sX12_asOne rfl (pX12_asOne0) (by decide) (Nat.le_of_ble_eq_true rfl) ?_
    refine k_ireturn eX12_two_121 rfl rfl ?_
    exact ⟨rt_f c_110, rfl⟩
  refine k_iconst (v := nI 1) eX12_two_113 (by decide) ?_
  refine k_goto 118 eX12_two_114 (by decide) ?_
  refine cS1 (M' := MX12_asOne) eX12_two_118 mX12_256 wX12_asOne sX12_asOne rfl (pX12_asOne1) (by decide) (Nat.le_of_ble_eq_true rfl) ?_
  refine k_ireturn eX12_two_121 rfl rfl ?_
  exact ⟨rt_t c_110, rfl⟩
set_option maxHeartbeats 400000 in
theorem pX12_two16 {h : k_H} (a b : Int32) : Sp 1 0 0 MX12_two [.int (nI 16), .int (a), .int (b)] h (Rt (some (.int (a + b))) (h)) := by
  refine Sp_of (by decide +kernel) (Nat.le_of_ble_eq_true rfl) ?_
  show AW none MX12_two 1 0 0 0 [.int (nI 16), .int (a), .int (b)] [] h _
  refine k_iload_n eX12_two_0 rfl ?_
  refine k_tabIn 136 (off := 135) eX12_two_1 (by decide) (by decide) (by decide) (by decide) ?_
  refine k_iload_n eX12_two_136 rfl ?_
  refine k_iload_n eX12_two_137 rfl ?_
  refine k_iadd eX12_two_138 ?_
  refine k_ireturn eX12_two_139 rfl rfl ?_
  exact ⟨rfl, rfl⟩
set_option maxHeartbeats 400000 in
theorem pX12_two17 {h : k_H} (a b : Int32) : Sp 1 0 0 MX12_two [.int (nI 17), .int (a), .int (b)] h (Rt (some (.int (a - b))) (h)) := by
  refine Sp_of (by decide +kernel) (Nat.le_of_ble_eq_true rfl) ?_
  show AW none MX12_two 1 0 0 0 [.int (nI 17), .int (a), .int (b)] [] h _
  refine k_iload_n eX12_two_0 rfl ?_
  refine k_tabIn 140 (off := 139) eX12_two_1 (by decide) (by decide) (by decide) (by decide) ?_
  refine k_iload_n eX12_two_140 rfl ?_
  refine k_iload_n eX12_two_141 rfl ?_
  refine k_isub eX12_two_142 ?_
  refine k_ireturn eX12_two_143 rfl rfl ?_
  exact ⟨rfl, rfl⟩
set_option maxHeartbeats 400000 in
theorem pX12_two18 {h : k_H} (a b : Int32) : Sp 1 0 0 MX12_two [.int (nI 18), .int (a), .int (b)] h (Rt (some (.int (a * b))) (h)) := by
  refine Sp_of (by decide +kernel) (Nat.le_of_ble_eq_true rfl) ?_
  show AW none MX12_two 1 0 0 0 [.int (nI 18), .int (a), .int (b)] [] h _
  refine k_iload_n eX12_two_0 rfl ?_
  refine k_tabIn 144 (off := 143) eX12_two_1 (by decide) (by decide) (by decide) (by decide) ?_
  refine k_iload_n eX12_two_144 rfl ?_
  refine k_iload_n eX12_two_145 rfl ?_
  refine k_imul eX12_two_146 ?_
  refine k_ireturn eX12_two_147 rfl rfl ?_
  exact ⟨rfl, rfl⟩
set_option maxHeartbeats 400000 in
theorem pX12_two20 {h : k_H} (a b : Int32) : Sp 1 0 0 MX12_two [.int (nI 20), .int (a), .int (b)] h (Rt (some (.int (b2i (b < a)))) (h)) := by
  refine Sp_of (by decide +kernel) (Nat.le_of_ble_eq_true rfl) ?_
  show AW none MX12_two 1 0 0 0 [.int (nI 20), .int (a), .int (b)] [] h _
  refine k_iload_n eX12_two_0 rfl ?_
  refine k_tabIn 122 (off := 121) eX12_two_1 (by decide) (by decide) (by decide) (by decide) ?_
  refine k_iload_n eX12_two_122 rfl ?_
  refine k_iload_n eX12_two_123 rfl ?_
  refine k_icmp_le 131 eX12_two_124 (by decide) (fun c_124 => ?_) (fun c_124 => ?_)
  · refine k_iconst (v := nI 0) eX12_two_131 (by decide) ?_
    refine cS1 (M' := MX12_asOne) eX12_two_132 mX12_256 wX12_asOne sX12_asOne rfl (pX12_asOne0) (by decide) (Nat.le_of_ble_eq_true rfl) ?_
    refine k_ireturn eX12_two_135 rfl rfl ?_
    exact ⟨rt_f (Int32.not_lt.mpr c_124), rfl⟩
  refine k_iconst (v := nI 1) eX12_two_127 (by decide) ?_
  refine k_goto 132 eX12_two_128 (by decide) ?_
  refine cS1 (M' := MX12_asOne) eX12_two_132 mX12_256 wX12_asOne sX12_asOne rfl (pX12_asOne1) (by decide) (Nat.le_of_ble_eq_true rfl) ?_
  refine k_ireturn eX12_two_135 rfl rfl ?_
  exact ⟨rt_t (Int32.not_le.mp c_124), rfl⟩
set_option maxHeartbeats 400000 in
theorem pX12_two21 {h : k_H} (a b : Int32) : Sp 1 0 0 MX12_two [.int (nI 21), .int (a), .int (b)] h (Rt (some (.int (if b = 0 then nI 0 else a / b))) (h)) := by
  refine Sp_of (by decide +kernel) (Nat.le_of_ble_eq_true rfl) ?_
  show AW none MX12_two 1 0 0 0 [.int (nI 21), .int (a), .int (b)] [] h _
  refine k_iload_n eX12_two_0 rfl ?_
  refine k_tabIn 148 (off := 147) eX12_two_1 (by decide) (by decide) (by decide) (by decide) ?_
  refine k_iload_n eX12_two_148 rfl ?_
  refine k_if_ne 156 eX12_two_149 (by decide) (fun c_149 => ?_) (fun c_149 => ?_)
  · refine k_iload_n eX12_two_156 rfl ?_
    refine k_iload_n eX12_two_157 rfl ?_
    refine k_idiv eX12_two_158 c_149 ?_
    refine k_ireturn eX12_two_159 rfl rfl ?_
    exact ⟨by rw [if_neg c_149], rfl⟩
  refine k_iconst (v := nI 0) eX12_two_152 (by decide) ?_
  refine k_goto 159 eX12_two_153 (by decide) ?_
  refine k_ireturn eX12_two_159 rfl rfl ?_
  exact ⟨by rw [if_pos c_149], rfl⟩
set_option maxHeartbeats 400000 in
theorem pX12_two22 {h : k_H} (a b : Int32) : Sp 1 0 0 MX12_two [.int (nI 22), .int (a), .int (b)] h (Rt (some (.int (if b = 0 then nI 0 else a - a / b * b))) (h)) := by
  refine Sp_of (by decide +kernel) (Nat.le_of_ble_eq_true rfl) ?_
  show AW none MX12_two 1 0 0 0 [.int (nI 22), .int (a), .int (b)] [] h _
  refine k_iload_n eX12_two_0 rfl ?_
  refine k_tabOut 160 eX12_two_1 (by decide) (by decide) ?_
  refine k_iload_n eX12_two_160 rfl ?_
  refine k_if_ne 168 eX12_two_161 (by decide) (fun c_161 => ?_) (fun c_161 => ?_)
  · refine k_iload_n eX12_two_168 rfl ?_
    refine k_iload_n eX12_two_169 rfl ?_
    refine k_irem eX12_two_170 c_161 ?_
    refine k_ireturn eX12_two_171 rfl rfl ?_
    exact ⟨by rw [if_neg c_161], rfl⟩
  refine k_iconst (v := nI 0) eX12_two_164 (by decide) ?_
  refine k_goto 171 eX12_two_165 (by decide) ?_
  refine k_ireturn eX12_two_171 rfl rfl ?_
  exact ⟨by rw [if_pos c_161], rfl⟩
/-- what joins two, as the class writes it and as the reference does -/
def bnR (s : Int32) (c : Nat) : Prop := (s = nI 124 ∧ c = 11) ∨ (s = nI 38 ∧ c = 12) ∨ (s = nI 60 ∧ c = 14) ∨ (s = nI 61 ∧ c = 15) ∨ (s = nI 43 ∧ c = 16) ∨ (s = nI 45 ∧ c = 17) ∨ (s = nI 42 ∧ c = 18) ∨ (s = nI 62 ∧ c = 20) ∨ (s = nI 47 ∧ c = 21) ∨ (s = nI 37 ∧ c = 22)
theorem bnR_c {s : Int32} {c : Nat} (h : bnR s c) : 11 ≤ c ∧ c ≤ 22 ∧ c ≠ 13 ∧ c ≠ 19 := by
  unfold bnR at h; omega
theorem pX12_two {h : k_H} {s : Int32} {c : Nat} (hb : bnR s c) (a b : Int32) : Sp 1 0 0 MX12_two [.int (nI c), .int a, .int b] h (Rt (some (.int (jn s a b))) h) := by
  rcases hb with ⟨rfl, rfl⟩ | ⟨rfl, rfl⟩ | ⟨rfl, rfl⟩ | ⟨rfl, rfl⟩ | ⟨rfl, rfl⟩ | ⟨rfl, rfl⟩ | ⟨rfl, rfl⟩ | ⟨rfl, rfl⟩ | ⟨rfl, rfl⟩ | ⟨rfl, rfl⟩
  · exact pX12_two11 a b
  · exact pX12_two12 a b
  · exact pX12_two14 a b
  · exact pX12_two15 a b
  · exact pX12_two16 a b
  · exact pX12_two17 a b
  · exact pX12_two18 a b
  · exact pX12_two20 a b
  · exact pX12_two21 a b
  · exact pX12_two22 a b
/-- a code of the class (x), and of the reference (c) -/
def cRl (x c : Int32) : Prop := (∃ v, v < 10000 ∧ x = nI v ∧ c = nI (100000 + v)) ∨ (0 < -x ∧ ∃ k, k < 7 ∧ nam (-x) = nI k ∧ c = nI k) ∨ (x = -33 ∧ c = nI 13) ∨ (x = -126 ∧ c = nI 19) ∨ (x = -63 ∧ c = nI 41) ∨ (x = -59 ∧ ∃ k, (k = 40 ∨ k = 42) ∧ c = nI k) ∨ (∃ k, bnR (-x) k ∧ c = nI k)
def clR : List Int32 → (Nat → Int32) → Nat → Prop
  | [], _, _ => True
  | x :: r, f, i => cRl x (f i) ∧ clR r f (i + 1)
/-- one asks once a line -/
def wfq : List Int32 → Bool → Prop
  | [], _ => True
  | x :: r, as => if x = -59 then wfq r false else if x = -63 then as = false ∧ wfq r true else wfq r as
def TxM (S : k_S) (q : Nat) (T : List Int32) : Prop := S.2.1 66 q = nI T.length ∧ T.length ≤ 200 ∧ clR T (S.2.1 65) (200 * q) ∧ wfc T 0 ∧ wfq T false
theorem bnR_s {s : Int32} {c : Nat} (h : bnR s c) : 0 < s ∧ ¬ 0 ≤ nam s ∧ ¬ s = nI 33 ∧ ¬ s = nI 126 ∧ ¬ s = nI 59 ∧ ¬ s = nI 63 := by
  rcases h with ⟨rfl, rfl⟩ | ⟨rfl, rfl⟩ | ⟨rfl, rfl⟩ | ⟨rfl, rfl⟩ | ⟨rfl, rfl⟩ | ⟨rfl, rfl⟩ | ⟨rfl, rfl⟩ | ⟨rfl, rfl⟩ | ⟨rfl, rfl⟩ | ⟨rfl, rfl⟩ <;> decide
theorem nam_no {s : Int32} {k : Nat} (hk : k < 7) (h : nam s = nI k) : ¬ s = nI 59 ∧ ¬ s = nI 63 := by
  constructor
  all_goals
    intro z
    subst z
    have q := congrArg Int32.toInt h
    rw [nI_toInt (by omega)] at q
    first
    | (rw [show (nam (nI 59)).toInt = -1 from by decide] at q; omega)
    | (rw [show (nam (nI 63)).toInt = -1 from by decide] at q; omega)
theorem gv_st {nm : Nat → Int32} {x : Int32} {r : List Int32} {sk : Bool} {st : List Int32} (h1 : ¬ -x = nI 59) (h2 : ¬ -x = nI 63) : gv nm (x :: r) sk (if sk = true then [] else st) = gv nm r sk (if sk = true then [] else stepL nm (-x) st) := by
  cases sk with
  | true => rw [gv, if_pos rfl, decide_eq_true h1]; rfl
  | false => rw [gv, if_neg (by decide), if_neg h1, if_neg h2]; rfl
theorem wfq_st {x : Int32} {r : List Int32} {as : Bool} (h : wfq (x :: r) as) (h1 : ¬ -x = nI 59) (h2 : ¬ -x = nI 63) : wfq r as := by
  rw [wfq, if_neg (fun z => h1 (by rw [z]; rfl)), if_neg (fun z => h2 (by rw [z]; rfl))] at h
  exact h
set_option maxHeartbeats 1000000 in
theorem lX12_says {d0 : Nat} (hdd : 2 ≤ d0) {S0 : k_S} {q n0 : Nat} (hq : q < 3) (hn : S0.2.1 66 q = nI n0) (hn0 : n0 ≤ 200) : ∀ (T : List Int32) (j : Nat) (sk as : Bool) (st : List Int32) (S : k_S), clR T (S0.2.1 65) (200 * q + j) → j + T.length = n0 → stk (S.2.1 82) st → st.length ≤ 120 → wfc T st.length → wfq T as → (sk = true → as = true) → Frm [] [82] [] S0 S → AW none MX12_says d0 0 0 7 [.ref 52, .int (nI q), .int (nI st.length), .int (b2i (sk = true)), .int (nI j), .null] [] (hp S) (Rx (some (.int (gv (S0.2.1 81) T sk (if sk = true then [] else st)))) (fun S' => Frm [] [82] [] S0 S')) := by
  intro T
  induction T with
  | nil =>
    intro j sk as st S hcl hj hst hl hwf hwq hsk f0
    have h66 : S.2.1 66 q = nI n0 := (congrFun (f0.2.1 66 (by decide)) q).trans hn
    have h65 : S.2.1 65 = S0.2.1 65 := f0.2.1 65 (by decide)
    have h81 : S.2.1 81 = S0.2.1 81 := f0.2.1 81 (by decide)
    obtain rfl : n0 = j := by simp only [List.length_nil] at hj; omega
    refine k_iload eX12_says_7 rfl ?_
    refine k_aload_n eX12_says_9 rfl ?_
    refine GX12_53 eX12_says_10 rfl ?_
    refine k_iload_n eX12_says_13 rfl ?_
    refine k_ialdN (j := q) eX12_says_14 (ar66 _) (by omega) (Nat.le_of_ble_eq_true rfl) ?_
    refine k_topi (nI n0) h66 ?_
    refine k_icmp_geN 242 eX12_says_15 (by decide) (by omega) (by omega) (fun c_15 => ?_) (fun c_15 => by exfalso; omega)
    refine k_iconst (v := nI 0) eX12_says_242 (by decide) ?_
    refine k_ireturn eX12_says_243 rfl rfl ?_
    exact ⟨by cases sk <;> rfl, S, rfl, f0⟩
  | cons x r ih =>
    intro j sk as st S hcl hj hst hl hwf hwq hsk f0
    have h66 : S.2.1 66 q = nI n0 := (congrFun (f0.2.1 66 (by decide)) q).trans hn
    have h65 : S.2.1 65 = S0.2.1 65 := f0.2.1 65 (by decide)
    have h81 : S.2.1 81 = S0.2.1 81 := f0.2.1 81 (by decide)
    simp only [List.length_cons] at hj
    obtain ⟨hc, hcl2⟩ := hcl
    rcases hc with ⟨v, hv, hx, hc⟩ | ⟨hp0, k, hk, hnk, hc⟩ | ⟨hx, hc⟩ | ⟨hx, hc⟩ | ⟨hx, hc⟩ | ⟨hx, k, hk, hc⟩ | ⟨k, hb, hc⟩
    · have hs0 : ¬ 0 < -x := by rw [hx, ← Int32.zero_sub, Int32.lt_iff_toInt_lt, show (0 : Int32) - nI v = nI 0 - nI v from rfl, pk_sub_toInt (by decide) (by omega)]; show ¬ (0 : Int) < _; omega
      have hn59 : ¬ -x = nI 59 := fun z => hs0 (by rw [z]; decide)
      have hn63 : ¬ -x = nI 63 := fun z => hs0 (by rw [z]; decide)
      have hws := (wfc_step (S0.2.1 81) hwf hn59 hn63 hl).2
      have hlt : st.length < 120 := (wfc_step (S0.2.1 81) hwf hn59 hn63 hl).1.1 (Or.inl hs0)
      obtain ⟨st0, e0⟩ : ∃ st0, st = st0 := ⟨st, rfl⟩
      rw [e0] at hws hlt hst ⊢
      refine k_iload eX12_says_7 rfl ?_
      refine k_aload_n eX12_says_9 rfl ?_
      refine GX12_53 eX12_says_10 rfl ?_
      refine k_iload_n eX12_says_13 rfl ?_
      refine k_ialdN (j := q) eX12_says_14 (ar66 _) (by omega) (Nat.le_of_ble_eq_true rfl) ?_
      refine k_topi (nI n0) h66 ?_
      refine k_icmp_geN 242 eX12_says_15 (by decide) (by omega) (by omega) (fun c_15 => by exfalso; omega) (fun c_15 => ?_)
      refine k_aload_n eX12_says_18 rfl ?_
      refine GX12_50 eX12_says_19 rfl ?_
      refine k_sipush (v := nI 200) eX12_says_22 (by decide) ?_
      refine k_iload_n eX12_says_25 rfl ?_
      refine k_imulN eX12_says_26 ?_
      refine k_iload eX12_says_27 rfl ?_
      refine k_iaddN eX12_says_29 ?_
      refine k_ialdN (j := ((200 * q) + j)) eX12_says_30 (ar65 _) (by omega) (Nat.le_of_ble_eq_true rfl) ?_
      refine k_topi (nI (100000 + v)) ((congrFun h65 _).trans hc) ?_
      refine k_istore (L2 := [_, _, _, _, _, _]) eX12_says_31 (Nat.le_of_ble_eq_true rfl) rfl ?_
      refine k_iload eX12_says_33 rfl ?_
      refine k_ldc eX12_says_35 kX12_218 rfl ?_
      refine k_topi (nI 100000) (by decide) ?_
      refine k_icmp_geN 47 eX12_says_37 (by decide) (by omega) (by omega) (fun c_37 => ?_) (fun c_37 => by exfalso; omega)
      refine k_aload_n eX12_says_47 rfl ?_
      refine GX12_105 eX12_says_48 rfl ?_
      refine k_iload_n eX12_says_51 rfl ?_
      refine k_iload eX12_says_52 rfl ?_
      refine k_bipush (v := nI 8) eX12_says_54 (by decide) ?_
      refine k_icmp_geN 69 eX12_says_56 (by decide) (by omega) (by omega) (fun c_56 => ?_) (fun c_56 => by exfalso; omega)
      refine k_iload eX12_says_69 rfl ?_
      refine k_ldc eX12_says_71 kX12_218 rfl ?_
      refine k_topi (nI 100000) (by decide) ?_
      refine k_isubN eX12_says_73 (by omega) ?_
      refine k_iastN (j := (st0.length)) eX12_says_74 (ar82 _) (by omega) (Nat.le_of_ble_eq_true rfl) (as82 _ _) ?_
      refine k_iincN (g := 1) (a := (st0.length)) (L2 := [_, _, _, _, _, _]) eX12_says_75 (Nat.le_of_ble_eq_true rfl) rfl rfl ?_
      refine k_goto 236 eX12_says_78 (by decide) ?_
      refine k_iincN (g := 1) (a := j) (L2 := [_, _, _, _, _, _]) eX12_says_236 (Nat.le_of_ble_eq_true rfl) rfl rfl ?_
      refine k_goto 7 eX12_says_239 (by decide) ?_
      refine k_forget 5 (L2 := [_, _, _, _, _, _]) rfl ?_
      have es : stepL (S0.2.1 81) (-x) st0 = x :: st0 := by rw [stepL, if_pos hs0, Int32.neg_neg]
      have hw9 := hws
      rw [es] at hw9
      rw [gv_st (st := st0) hn59 hn63, es]
      refine k_loc (L2 := [_, _, .int (nI (x :: st0).length), _, _, _]) rfl ?_
      refine ih (j + 1) sk as (x :: st0) _ hcl2 (by omega) ?_ hw9.2 hw9.1 (wfq_st hwq hn59 hn63) hsk (f0.sa (by decide) _)
      show stk (va_up (S.2.1 82) st0.length (nI (100000 + v - 100000))) (x :: st0)
      rw [show nI (100000 + v - 100000) = x from by rw [hx, Nat.add_sub_cancel_left]]
      exact stk_push hst
    · obtain ⟨hn59, hn63⟩ := nam_no hk hnk
      have hna : 0 ≤ nam (-x) := by rw [hnk]; exact nI_pos' (by omega)
      have hws := (wfc_step (S0.2.1 81) hwf hn59 hn63 hl).2
      have hlt : st.length < 120 := (wfc_step (S0.2.1 81) hwf hn59 hn63 hl).1.1 (Or.inr hna)
      obtain ⟨st0, e0⟩ : ∃ st0, st = st0 := ⟨st, rfl⟩
      rw [e0] at hws hlt hst ⊢
      refine k_iload eX12_says_7 rfl ?_
      refine k_aload_n eX12_says_9 rfl ?_
      refine GX12_53 eX12_says_10 rfl ?_
      refine k_iload_n eX12_says_13 rfl ?_
      refine k_ialdN (j := q) eX12_says_14 (ar66 _) (by omega) (Nat.le_of_ble_eq_true rfl) ?_
      refine k_topi (nI n0) h66 ?_
      refine k_icmp_geN 242 eX12_says_15 (by decide) (by omega) (by omega) (fun c_15 => by exfalso; omega) (fun c_15 => ?_)
      refine k_aload_n eX12_says_18 rfl ?_
      refine GX12_50 eX12_says_19 rfl ?_
      refine k_sipush (v := nI 200) eX12_says_22 (by decide) ?_
      refine k_iload_n eX12_says_25 rfl ?_
      refine k_imulN eX12_says_26 ?_
      refine k_iload eX12_says_27 rfl ?_
      refine k_iaddN eX12_says_29 ?_
      refine k_ialdN (j := ((200 * q) + j)) eX12_says_30 (ar65 _) (by omega) (Nat.le_of_ble_eq_true rfl) ?_
      refine k_topi (nI k) ((congrFun h65 _).trans hc) ?_
      refine k_istore (L2 := [_, _, _, _, _, _]) eX12_says_31 (Nat.le_of_ble_eq_true rfl) rfl ?_
      refine k_iload eX12_says_33 rfl ?_
      refine k_ldc eX12_says_35 kX12_218 rfl ?_
      refine k_topi (nI 100000) (by decide) ?_
      refine k_icmp_geN 47 eX12_says_37 (by decide) (by omega) (by omega) (fun c_37 => by exfalso; omega) (fun c_37 => ?_)
      refine k_iload eX12_says_40 rfl ?_
      refine k_bipush (v := nI 8) eX12_says_42 (by decide) ?_
      refine k_icmp_geN 81 eX12_says_44 (by decide) (by omega) (by omega) (fun c_44 => by exfalso; omega) (fun c_44 => ?_)
      refine k_aload_n eX12_says_47 rfl ?_
      refine GX12_105 eX12_says_48 rfl ?_
      refine k_iload_n eX12_says_51 rfl ?_
      refine k_iload eX12_says_52 rfl ?_
      refine k_bipush (v := nI 8) eX12_says_54 (by decide) ?_
      refine k_icmp_geN 69 eX12_says_56 (by decide) (by omega) (by omega) (fun c_56 => by exfalso; omega) (fun c_56 => ?_)
      refine k_aload_n eX12_says_59 rfl ?_
      refine GX12_102 eX12_says_60 rfl ?_
      refine k_iload eX12_says_63 rfl ?_
      refine k_ialdN (j := k) eX12_says_65 (ar81 _) (by omega) (Nat.le_of_ble_eq_true rfl) ?_
      refine k_topi ((S0.2.1 81 k)) (congrFun h81 _) ?_
      refine k_goto 74 eX12_says_66 (by decide) ?_
      refine k_iastN (j := (st0.length)) eX12_says_74 (ar82 _) (by omega) (Nat.le_of_ble_eq_true rfl) (as82 _ _) ?_
      refine k_iincN (g := 1) (a := (st0.length)) (L2 := [_, _, _, _, _, _]) eX12_says_75 (Nat.le_of_ble_eq_true rfl) rfl rfl ?_
      refine k_goto 236 eX12_says_78 (by decide) ?_
      refine k_iincN (g := 1) (a := j) (L2 := [_, _, _, _, _, _]) eX12_says_236 (Nat.le_of_ble_eq_true rfl) rfl rfl ?_
      refine k_goto 7 eX12_says_239 (by decide) ?_
      refine k_forget 5 (L2 := [_, _, _, _, _, _]) rfl ?_
      have es : stepL (S0.2.1 81) (-x) st0 = S0.2.1 81 k :: st0 := by rw [stepL, if_neg (not_not_intro hp0), if_pos hna, hnk, ix_nI (by omega)]
      have hw9 := hws
      rw [es] at hw9
      rw [gv_st (st := st0) hn59 hn63, es]
      refine k_loc (L2 := [_, _, .int (nI (S0.2.1 81 k :: st0).length), _, _, _]) rfl ?_
      refine ih (j + 1) sk as (S0.2.1 81 k :: st0) _ hcl2 (by omega) ?_ hw9.2 hw9.1 (wfq_st hwq hn59 hn63) hsk (f0.sa (by decide) _)
      exact stk_push hst
    · have hs1 : 0 < -x := by rw [hx]; decide
      have hna : ¬ 0 ≤ nam (-x) := by rw [hx]; decide
      have hn59 : ¬ -x = nI 59 := by rw [hx]; decide
      have hn63 : ¬ -x = nI 63 := by rw [hx]; decide
      have hws := (wfc_step (S0.2.1 81) hwf hn59 hn63 hl).2
      obtain ⟨a, t, e0⟩ := (wfc_step (S0.2.1 81) hwf hn59 hn63 hl).1.2.1 hs1 hna (by rw [hx]; decide)
      obtain ⟨st0, e1⟩ : ∃ st0, a :: t = st0 := ⟨_, rfl⟩
      subst e0
      simp only [List.length_cons] at hl hwf
      obtain ⟨hsa, hst2⟩ := hst
      refine k_loc (L2 := [_, _, .int (nI (t.length + 1)), _, _, _]) rfl ?_
      refine k_iload eX12_says_7 rfl ?_
      refine k_aload_n eX12_says_9 rfl ?_
      refine GX12_53 eX12_says_10 rfl ?_
      refine k_iload_n eX12_says_13 rfl ?_
      refine k_ialdN (j := q) eX12_says_14 (ar66 _) (by omega) (Nat.le_of_ble_eq_true rfl) ?_
      refine k_topi (nI n0) h66 ?_
      refine k_icmp_geN 242 eX12_says_15 (by decide) (by omega) (by omega) (fun c_15 => by exfalso; omega) (fun c_15 => ?_)
      refine k_aload_n eX12_says_18 rfl ?_
      refine GX12_50 eX12_says_19 rfl ?_
      refine k_sipush (v := nI 200) eX12_says_22 (by decide) ?_
      refine k_iload_n eX12_says_25 rfl ?_
      refine k_imulN eX12_says_26 ?_
      refine k_iload eX12_says_27 rfl ?_
      refine k_iaddN eX12_says_29 ?_
      refine k_ialdN (j := ((200 * q) + j)) eX12_says_30 (ar65 _) (by omega) (Nat.le_of_ble_eq_true rfl) ?_
      refine k_topi (nI 13) ((congrFun h65 _).trans hc) ?_
      refine k_istore (L2 := [_, _, _, _, _, _]) eX12_says_31 (Nat.le_of_ble_eq_true rfl) rfl ?_
      refine k_iload eX12_says_33 rfl ?_
      refine k_ldc eX12_says_35 kX12_218 rfl ?_
      refine k_topi (nI 100000) (by decide) ?_
      refine k_icmp_geN 47 eX12_says_37 (by decide) (by omega) (by omega) (fun c_37 => by exfalso; omega) (fun c_37 => ?_)
      refine k_iload eX12_says_40 rfl ?_
      refine k_bipush (v := nI 8) eX12_says_42 (by decide) ?_
      refine k_icmp_geN 81 eX12_says_44 (by decide) (by omega) (by omega) (fun c_44 => ?_) (fun c_44 => by exfalso; omega)
      refine k_iload eX12_says_81 rfl ?_
      refine k_bipush (v := nI 13) eX12_says_83 (by decide) ?_
      refine k_icmp_neN 118 eX12_says_85 (by decide) (by omega) (by omega) (fun c_85 => by exfalso; omega) (fun c_85 => ?_)
      refine k_aload_n eX12_says_88 rfl ?_
      refine GX12_105 eX12_says_89 rfl ?_
      refine k_iload_n eX12_says_92 rfl ?_
      refine k_iconst (v := nI 1) eX12_says_93 (by decide) ?_
      refine k_isubN eX12_says_94 (by omega) ?_
      refine k_aload_n eX12_says_95 rfl ?_
      refine GX12_105 eX12_says_96 rfl ?_
      refine k_iload_n eX12_says_99 rfl ?_
      refine k_iconst (v := nI 1) eX12_says_100 (by decide) ?_
      refine k_isubN eX12_says_101 (by omega) ?_
      refine k_ialdN (j := ((t.length + 1) - 1)) eX12_says_102 (ar82 _) (by omega) (Nat.le_of_ble_eq_true rfl) ?_
      refine k_topi (a) hsa ?_
      refine k_if_ne 110 eX12_says_103 (by decide) (fun c_103 => ?_) (fun c_103 => ?_)
      · refine k_iconst (v := nI 0) eX12_says_110 (by decide) ?_
        refine cS1 (M' := MX12_asOne) eX12_says_111 mX12_256 wX12_asOne sX12_asOne rfl (pX12_asOne0) (by omega) (Nat.le_of_ble_eq_true rfl) ?_
        refine k_iastN (j := ((t.length + 1) - 1)) eX12_says_114 (ar82 _) (by omega) (Nat.le_of_ble_eq_true rfl) (as82 _ _) ?_
        refine k_goto 236 eX12_says_115 (by decide) ?_
        refine k_iincN (g := 1) (a := j) (L2 := [_, _, _, _, _, _]) eX12_says_236 (Nat.le_of_ble_eq_true rfl) rfl rfl ?_
        refine k_goto 7 eX12_says_239 (by decide) ?_
        have e5 : b2i (a = 0) = nI 0 := b2i_f c_103
        refine k_forget 5 (L2 := [_, _, _, _, _, _]) rfl ?_
        have es : stepL (S0.2.1 81) (-x) (a :: t) = nI 0 :: t := by rw [stepL, if_neg (not_not_intro hs1), if_neg hna, if_pos (by rw [hx]; rfl), ← e5]; rfl
        have hw9 := hws
        rw [es] at hw9
        rw [gv_st (st := a :: t) hn59 hn63, es]
        refine k_loc (L2 := [_, _, .int (nI (nI 0 :: t).length), _, _, _]) rfl ?_
        refine ih (j + 1) sk as (nI 0 :: t) _ hcl2 (by omega) ?_ hw9.2 hw9.1 (wfq_st hwq hn59 hn63) hsk (f0.sa (by decide) _)
        exact stk_push hst2
      refine k_iconst (v := nI 1) eX12_says_106 (by decide) ?_
      refine k_goto 111 eX12_says_107 (by decide) ?_
      refine cS1 (M' := MX12_asOne) eX12_says_111 mX12_256 wX12_asOne sX12_asOne rfl (pX12_asOne1) (by omega) (Nat.le_of_ble_eq_true rfl) ?_
      refine k_iastN (j := ((t.length + 1) - 1)) eX12_says_114 (ar82 _) (by omega) (Nat.le_of_ble_eq_true rfl) (as82 _ _) ?_
      refine k_goto 236 eX12_says_115 (by decide) ?_
      refine k_iincN (g := 1) (a := j) (L2 := [_, _, _, _, _, _]) eX12_says_236 (Nat.le_of_ble_eq_true rfl) rfl rfl ?_
      refine k_goto 7 eX12_says_239 (by decide) ?_
      have e5 : b2i (a = 0) = nI 1 := b2i_t c_103
      refine k_forget 5 (L2 := [_, _, _, _, _, _]) rfl ?_
      have es : stepL (S0.2.1 81) (-x) (a :: t) = nI 1 :: t := by rw [stepL, if_neg (not_not_intro hs1), if_neg hna, if_pos (by rw [hx]; rfl), ← e5]; rfl
      have hw9 := hws
      rw [es] at hw9
      rw [gv_st (st := a :: t) hn59 hn63, es]
      refine k_loc (L2 := [_, _, .int (nI (nI 1 :: t).length), _, _, _]) rfl ?_
      refine ih (j + 1) sk as (nI 1 :: t) _ hcl2 (by omega) ?_ hw9.2 hw9.1 (wfq_st hwq hn59 hn63) hsk (f0.sa (by decide) _)
      exact stk_push hst2
    · have hs1 : 0 < -x := by rw [hx]; decide
      have hna : ¬ 0 ≤ nam (-x) := by rw [hx]; decide
      have hn59 : ¬ -x = nI 59 := by rw [hx]; decide
      have hn63 : ¬ -x = nI 63 := by rw [hx]; decide
      have hws := (wfc_step (S0.2.1 81) hwf hn59 hn63 hl).2
      obtain ⟨a, t, e0⟩ := (wfc_step (S0.2.1 81) hwf hn59 hn63 hl).1.2.1 hs1 hna (by rw [hx]; decide)
      obtain ⟨st0, e1⟩ : ∃ st0, a :: t = st0 := ⟨_, rfl⟩
      subst e0
      simp only [List.length_cons] at hl hwf
      obtain ⟨hsa, hst2⟩ := hst
      refine k_loc (L2 := [_, _, .int (nI (t.length + 1)), _, _, _]) rfl ?_
      refine k_iload eX12_says_7 rfl ?_
      refine k_aload_n eX12_says_9 rfl ?_
      refine GX12_53 eX12_says_10 rfl ?_
      refine k_iload_n eX12_says_13 rfl ?_
      refine k_ialdN (j := q) eX12_says_14 (ar66 _) (by omega) (Nat.le_of_ble_eq_true rfl) ?_
      refine k_topi (nI n0) h66 ?_
      refine k_icmp_geN 242 eX12_says_15 (by decide) (by omega) (by omega) (fun c_15 => by exfalso; omega) (fun c_15 => ?_)
      refine k_aload_n eX12_says_18 rfl ?_
      refine GX12_50 eX12_says_19 rfl ?_
      refine k_sipush (v := nI 200) eX12_says_22 (by decide) ?_
      refine k_iload_n eX12_says_25 rfl ?_
      refine k_imulN eX12_says_26 ?_
      refine k_iload eX12_says_27 rfl ?_
      refine k_iaddN eX12_says_29 ?_
      refine k_ialdN (j := ((200 * q) + j)) eX12_says_30 (ar65 _) (by omega) (Nat.le_of_ble_eq_true rfl) ?_
      refine k_topi (nI 19) ((congrFun h65 _).trans hc) ?_
      refine k_istore (L2 := [_, _, _, _, _, _]) eX12_says_31 (Nat.le_of_ble_eq_true rfl) rfl ?_
      refine k_iload eX12_says_33 rfl ?_
      refine k_ldc eX12_says_35 kX12_218 rfl ?_
      refine k_topi (nI 100000) (by decide) ?_
      refine k_icmp_geN 47 eX12_says_37 (by decide) (by omega) (by omega) (fun c_37 => by exfalso; omega) (fun c_37 => ?_)
      refine k_iload eX12_says_40 rfl ?_
      refine k_bipush (v := nI 8) eX12_says_42 (by decide) ?_
      refine k_icmp_geN 81 eX12_says_44 (by decide) (by omega) (by omega) (fun c_44 => ?_) (fun c_44 => by exfalso; omega)
      refine k_iload eX12_says_81 rfl ?_
      refine k_bipush (v := nI 13) eX12_says_83 (by decide) ?_
      refine k_icmp_neN 118 eX12_says_85 (by decide) (by omega) (by omega) (fun c_85 => ?_) (fun c_85 => by exfalso; omega)
      refine k_iload eX12_says_118 rfl ?_
      refine k_bipush (v := nI 19) eX12_says_120 (by decide) ?_
      refine k_icmp_neN 145 eX12_says_122 (by decide) (by omega) (by omega) (fun c_122 => by exfalso; omega) (fun c_122 => ?_)
      refine k_aload_n eX12_says_125 rfl ?_
      refine GX12_105 eX12_says_126 rfl ?_
      refine k_iload_n eX12_says_129 rfl ?_
      refine k_iconst (v := nI 1) eX12_says_130 (by decide) ?_
      refine k_isubN eX12_says_131 (by omega) ?_
      refine k_aload_n eX12_says_132 rfl ?_
      refine GX12_105 eX12_says_133 rfl ?_
      refine k_iload_n eX12_says_136 rfl ?_
      refine k_iconst (v := nI 1) eX12_says_137 (by decide) ?_
      refine k_isubN eX12_says_138 (by omega) ?_
      refine k_ialdN (j := ((t.length + 1) - 1)) eX12_says_139 (ar82 _) (by omega) (Nat.le_of_ble_eq_true rfl) ?_
      refine k_topi (a) hsa ?_
      refine k_ineg eX12_says_140 ?_
      refine k_iastN (j := ((t.length + 1) - 1)) eX12_says_141 (ar82 _) (by omega) (Nat.le_of_ble_eq_true rfl) (as82 _ _) ?_
      refine k_goto 236 eX12_says_142 (by decide) ?_
      refine k_iincN (g := 1) (a := j) (L2 := [_, _, _, _, _, _]) eX12_says_236 (Nat.le_of_ble_eq_true rfl) rfl rfl ?_
      refine k_goto 7 eX12_says_239 (by decide) ?_
      refine k_forget 5 (L2 := [_, _, _, _, _, _]) rfl ?_
      have es : stepL (S0.2.1 81) (-x) (a :: t) = (-a) :: t := by rw [stepL, if_neg (not_not_intro hs1), if_neg hna, if_neg (by rw [hx]; decide), if_pos (by rw [hx]; rfl)]; rfl
      have hw9 := hws
      rw [es] at hw9
      rw [gv_st (st := a :: t) hn59 hn63, es]
      refine k_loc (L2 := [_, _, .int (nI ((-a) :: t).length), _, _, _]) rfl ?_
      refine ih (j + 1) sk as ((-a) :: t) _ hcl2 (by omega) ?_ hw9.2 hw9.1 (wfq_st hwq hn59 hn63) hsk (f0.sa (by decide) _)
      exact stk_push hst2
    · have hwf1 : st.length = 1 ∧ wfc r 0 := by rw [wfc, if_pos (Or.inr (by rw [hx]; rfl))] at hwf; exact hwf
      have hwq1 : as = false ∧ wfq r true := by rw [wfq, if_neg (by rw [hx]; decide), if_pos hx] at hwq; exact hwq
      obtain rfl : sk = false := by cases sk with | false => rfl | true => exact absurd (hsk rfl) (by rw [hwq1.1]; decide)
      obtain ⟨a, t, rfl⟩ := len1 (st := st) (by omega)
      obtain rfl : t = [] := len0 (by have := hwf1.1; simp only [List.length_cons] at this; omega)
      obtain ⟨hsa, -⟩ := hst
      refine k_loc (L2 := [_, _, .int (nI 1), _, _, _]) rfl ?_
      refine k_iload eX12_says_7 rfl ?_
      refine k_aload_n eX12_says_9 rfl ?_
      refine GX12_53 eX12_says_10 rfl ?_
      refine k_iload_n eX12_says_13 rfl ?_
      refine k_ialdN (j := q) eX12_says_14 (ar66 _) (by omega) (Nat.le_of_ble_eq_true rfl) ?_
      refine k_topi (nI n0) h66 ?_
      refine k_icmp_geN 242 eX12_says_15 (by decide) (by omega) (by omega) (fun c_15 => by exfalso; omega) (fun c_15 => ?_)
      refine k_aload_n eX12_says_18 rfl ?_
      refine GX12_50 eX12_says_19 rfl ?_
      refine k_sipush (v := nI 200) eX12_says_22 (by decide) ?_
      refine k_iload_n eX12_says_25 rfl ?_
      refine k_imulN eX12_says_26 ?_
      refine k_iload eX12_says_27 rfl ?_
      refine k_iaddN eX12_says_29 ?_
      refine k_ialdN (j := ((200 * q) + j)) eX12_says_30 (ar65 _) (by omega) (Nat.le_of_ble_eq_true rfl) ?_
      refine k_topi (nI 41) ((congrFun h65 _).trans hc) ?_
      refine k_istore (L2 := [_, _, _, _, _, _]) eX12_says_31 (Nat.le_of_ble_eq_true rfl) rfl ?_
      refine k_iload eX12_says_33 rfl ?_
      refine k_ldc eX12_says_35 kX12_218 rfl ?_
      refine k_topi (nI 100000) (by decide) ?_
      refine k_icmp_geN 47 eX12_says_37 (by decide) (by omega) (by omega) (fun c_37 => by exfalso; omega) (fun c_37 => ?_)
      refine k_iload eX12_says_40 rfl ?_
      refine k_bipush (v := nI 8) eX12_says_42 (by decide) ?_
      refine k_icmp_geN 81 eX12_says_44 (by decide) (by omega) (by omega) (fun c_44 => ?_) (fun c_44 => by exfalso; omega)
      refine k_iload eX12_says_81 rfl ?_
      refine k_bipush (v := nI 13) eX12_says_83 (by decide) ?_
      refine k_icmp_neN 118 eX12_says_85 (by decide) (by omega) (by omega) (fun c_85 => ?_) (fun c_85 => by exfalso; omega)
      refine k_iload eX12_says_118 rfl ?_
      refine k_bipush (v := nI 19) eX12_says_120 (by decide) ?_
      refine k_icmp_neN 145 eX12_says_122 (by decide) (by omega) (by omega) (fun c_122 => ?_) (fun c_122 => by exfalso; omega)
      refine k_iload eX12_says_145 rfl ?_
      refine k_bipush (v := nI 41) eX12_says_147 (by decide) ?_
      refine k_icmp_neN 173 eX12_says_149 (by decide) (by omega) (by omega) (fun c_149 => by exfalso; omega) (fun c_149 => ?_)
      refine k_iinc (v := nI 0) (L2 := [_, _, _, _, _, _]) eX12_says_152 (Nat.le_of_ble_eq_true rfl) rfl (by show nI 1 + Int32.ofInt (-1) = nI 0; decide) rfl ?_
      refine k_aload_n eX12_says_155 rfl ?_
      refine GX12_105 eX12_says_156 rfl ?_
      refine k_iload_n eX12_says_159 rfl ?_
      refine k_ialdN (j := 0) eX12_says_160 (ar82 _) (by omega) (Nat.le_of_ble_eq_true rfl) ?_
      refine k_topi (a) hsa ?_
      refine k_if_ne 168 eX12_says_161 (by decide) (fun c_161 => ?_) (fun c_161 => ?_)
      · refine k_iconst (v := nI 0) eX12_says_168 (by decide) ?_
        refine k_istore_n (L2 := [_, _, _, _, _, _]) eX12_says_169 (Nat.le_of_ble_eq_true rfl) rfl ?_
        refine k_goto 236 eX12_says_170 (by decide) ?_
        refine k_iincN (g := 1) (a := j) (L2 := [_, _, _, _, _, _]) eX12_says_236 (Nat.le_of_ble_eq_true rfl) rfl rfl ?_
        refine k_goto 7 eX12_says_239 (by decide) ?_
        refine k_forget 5 (L2 := [_, _, _, _, _, _]) rfl ?_
        rw [show gv (S0.2.1 81) (x :: r) false (if false = true then [] else [a]) = gv (S0.2.1 81) r false (if false = true then [] else []) from by show gv _ (x :: r) false [a] = gv _ r false _; rw [gv, if_neg (by decide), if_neg (by rw [hx]; decide), if_pos (by rw [hx]; rfl), show decide (hdI [a] = 0) = false from decide_eq_false c_161]; rfl]
        exact ih (j + 1) false true [] _ hcl2 (by omega) trivial (by decide) hwf1.2 hwq1.2 (fun _ => rfl) f0
      refine k_iconst (v := nI 1) eX12_says_164 (by decide) ?_
      refine k_goto 169 eX12_says_165 (by decide) ?_
      refine k_istore_n (L2 := [_, _, _, _, _, _]) eX12_says_169 (Nat.le_of_ble_eq_true rfl) rfl ?_
      refine k_goto 236 eX12_says_170 (by decide) ?_
      refine k_iincN (g := 1) (a := j) (L2 := [_, _, _, _, _, _]) eX12_says_236 (Nat.le_of_ble_eq_true rfl) rfl rfl ?_
      refine k_goto 7 eX12_says_239 (by decide) ?_
      refine k_forget 5 (L2 := [_, _, _, _, _, _]) rfl ?_
      rw [show gv (S0.2.1 81) (x :: r) false (if false = true then [] else [a]) = gv (S0.2.1 81) r true (if true = true then [] else []) from by show gv _ (x :: r) false [a] = gv _ r true _; rw [gv, if_neg (by decide), if_neg (by rw [hx]; decide), if_pos (by rw [hx]; rfl), show decide (hdI [a] = 0) = true from decide_eq_true c_161]; rfl]
      exact ih (j + 1) true true [] _ hcl2 (by omega) trivial (by decide) hwf1.2 hwq1.2 (fun _ => rfl) f0
    · have hwf1 : st.length = 1 ∧ wfc r 0 := by rw [wfc, if_pos (Or.inl (by rw [hx]; rfl))] at hwf; exact hwf
      have hwq1 : wfq r false := by rw [wfq, if_pos hx] at hwq; exact hwq
      obtain ⟨a, t, rfl⟩ := len1 (st := st) (by omega)
      obtain rfl : t = [] := len0 (by have := hwf1.1; simp only [List.length_cons] at this; omega)
      obtain ⟨hsa, -⟩ := hst
      refine k_loc (L2 := [_, _, .int (nI 1), _, _, _]) rfl ?_
      refine k_iload eX12_says_7 rfl ?_
      refine k_aload_n eX12_says_9 rfl ?_
      refine GX12_53 eX12_says_10 rfl ?_
      refine k_iload_n eX12_says_13 rfl ?_
      refine k_ialdN (j := q) eX12_says_14 (ar66 _) (by omega) (Nat.le_of_ble_eq_true rfl) ?_
      refine k_topi (nI n0) h66 ?_
      refine k_icmp_geN 242 eX12_says_15 (by decide) (by omega) (by omega) (fun c_15 => by exfalso; omega) (fun c_15 => ?_)
      refine k_aload_n eX12_says_18 rfl ?_
      refine GX12_50 eX12_says_19 rfl ?_
      refine k_sipush (v := nI 200) eX12_says_22 (by decide) ?_
      refine k_iload_n eX12_says_25 rfl ?_
      refine k_imulN eX12_says_26 ?_
      refine k_iload eX12_says_27 rfl ?_
      refine k_iaddN eX12_says_29 ?_
      refine k_ialdN (j := ((200 * q) + j)) eX12_says_30 (ar65 _) (by omega) (Nat.le_of_ble_eq_true rfl) ?_
      refine k_topi (nI k) ((congrFun h65 _).trans hc) ?_
      refine k_istore (L2 := [_, _, _, _, _, _]) eX12_says_31 (Nat.le_of_ble_eq_true rfl) rfl ?_
      refine k_iload eX12_says_33 rfl ?_
      refine k_ldc eX12_says_35 kX12_218 rfl ?_
      refine k_topi (nI 100000) (by decide) ?_
      refine k_icmp_geN 47 eX12_says_37 (by decide) (by omega) (by omega) (fun c_37 => by exfalso; omega) (fun c_37 => ?_)
      refine k_iload eX12_says_40 rfl ?_
      refine k_bipush (v := nI 8) eX12_says_42 (by decide) ?_
      refine k_icmp_geN 81 eX12_says_44 (by decide) (by omega) (by omega) (fun c_44 => ?_) (fun c_44 => by exfalso; omega)
      refine k_iload eX12_says_81 rfl ?_
      refine k_bipush (v := nI 13) eX12_says_83 (by decide) ?_
      refine k_icmp_neN 118 eX12_says_85 (by decide) (by omega) (by omega) (fun c_85 => ?_) (fun c_85 => by exfalso; omega)
      refine k_iload eX12_says_118 rfl ?_
      refine k_bipush (v := nI 19) eX12_says_120 (by decide) ?_
      refine k_icmp_neN 145 eX12_says_122 (by decide) (by omega) (by omega) (fun c_122 => ?_) (fun c_122 => by exfalso; omega)
      refine k_iload eX12_says_145 rfl ?_
      refine k_bipush (v := nI 41) eX12_says_147 (by decide) ?_
      refine k_icmp_neN 173 eX12_says_149 (by decide) (by omega) (by omega) (fun c_149 => ?_) (fun c_149 => by exfalso; omega)
      refine k_iload eX12_says_173 rfl ?_
      refine k_bipush (v := nI 40) eX12_says_175 (by decide) ?_
      refine k_icmp_eqN 187 eX12_says_177 (by decide) (by omega) (by omega) (fun c_177 => ?_) (fun c_177 => ?_)
      · refine k_iinc (v := nI 0) (L2 := [_, _, _, _, _, _]) eX12_says_187 (Nat.le_of_ble_eq_true rfl) rfl (by show nI 1 + Int32.ofInt (-1) = nI 0; decide) rfl ?_
        refine k_iload_n eX12_says_190 rfl ?_
        refine k_ifb_ne 201 eX12_says_191 (by decide) (fun c_191 => ?_) (fun c_191 => ?_)
        · refine k_iconst (v := nI 0) eX12_says_201 (by decide) ?_
          refine k_istore_n (L2 := [_, _, _, _, _, _]) eX12_says_202 (Nat.le_of_ble_eq_true rfl) rfl ?_
          refine k_goto 236 eX12_says_203 (by decide) ?_
          refine k_iincN (g := 1) (a := j) (L2 := [_, _, _, _, _, _]) eX12_says_236 (Nat.le_of_ble_eq_true rfl) rfl rfl ?_
          refine k_goto 7 eX12_says_239 (by decide) ?_
          refine k_forget 5 (L2 := [_, _, _, _, _, _]) rfl ?_
          obtain rfl : sk = true := c_191
          rw [show gv (S0.2.1 81) (x :: r) true (if true = true then [] else [a]) = gv (S0.2.1 81) r false (if false = true then [] else []) from by show gv _ (x :: r) true _ = gv _ r false _; rw [gv, if_pos rfl, show decide (¬ -x = nI 59) = false from decide_eq_false (not_not_intro (by rw [hx]; rfl))]; rfl]
          exact ih (j + 1) false false [] _ hcl2 (by omega) trivial (by decide) hwf1.2 hwq1 (fun q => by cases q) f0
        refine k_aload_n eX12_says_194 rfl ?_
        refine GX12_105 eX12_says_195 rfl ?_
        refine k_iload_n eX12_says_198 rfl ?_
        refine k_ialdN (j := 0) eX12_says_199 (ar82 _) (by omega) (Nat.le_of_ble_eq_true rfl) ?_
        refine k_topi (a) hsa ?_
        refine k_ireturn eX12_says_200 rfl rfl ?_
        obtain rfl : sk = false := (Bool.not_eq_true _).mp c_191
        exact ⟨by show _ = some (Value.int (gv _ (x :: r) false [a])); rw [gv, if_neg (by decide), if_pos (by rw [hx]; rfl)]; rfl, S, rfl, f0⟩
      refine k_iload eX12_says_180 rfl ?_
      refine k_bipush (v := nI 42) eX12_says_182 (by decide) ?_
      refine k_icmp_neN 206 eX12_says_184 (by decide) (by omega) (by omega) (fun c_184 => by exfalso; omega) (fun c_184 => ?_)
      refine k_iinc (v := nI 0) (L2 := [_, _, _, _, _, _]) eX12_says_187 (Nat.le_of_ble_eq_true rfl) rfl (by show nI 1 + Int32.ofInt (-1) = nI 0; decide) rfl ?_
      refine k_iload_n eX12_says_190 rfl ?_
      refine k_ifb_ne 201 eX12_says_191 (by decide) (fun c_191 => ?_) (fun c_191 => ?_)
      · refine k_iconst (v := nI 0) eX12_says_201 (by decide) ?_
        refine k_istore_n (L2 := [_, _, _, _, _, _]) eX12_says_202 (Nat.le_of_ble_eq_true rfl) rfl ?_
        refine k_goto 236 eX12_says_203 (by decide) ?_
        refine k_iincN (g := 1) (a := j) (L2 := [_, _, _, _, _, _]) eX12_says_236 (Nat.le_of_ble_eq_true rfl) rfl rfl ?_
        refine k_goto 7 eX12_says_239 (by decide) ?_
        refine k_forget 5 (L2 := [_, _, _, _, _, _]) rfl ?_
        obtain rfl : sk = true := c_191
        rw [show gv (S0.2.1 81) (x :: r) true (if true = true then [] else [a]) = gv (S0.2.1 81) r false (if false = true then [] else []) from by show gv _ (x :: r) true _ = gv _ r false _; rw [gv, if_pos rfl, show decide (¬ -x = nI 59) = false from decide_eq_false (not_not_intro (by rw [hx]; rfl))]; rfl]
        exact ih (j + 1) false false [] _ hcl2 (by omega) trivial (by decide) hwf1.2 hwq1 (fun q => by cases q) f0
      refine k_aload_n eX12_says_194 rfl ?_
      refine GX12_105 eX12_says_195 rfl ?_
      refine k_iload_n eX12_says_198 rfl ?_
      refine k_ialdN (j := 0) eX12_says_199 (ar82 _) (by omega) (Nat.le_of_ble_eq_true rfl) ?_
      refine k_topi (a) hsa ?_
      refine k_ireturn eX12_says_200 rfl rfl ?_
      obtain rfl : sk = false := (Bool.not_eq_true _).mp c_191
      exact ⟨by show _ = some (Value.int (gv _ (x :: r) false [a])); rw [gv, if_neg (by decide), if_pos (by rw [hx]; rfl)]; rfl, S, rfl, f0⟩
    · obtain ⟨hs1, hna, hn33, hn126, hn59, hn63⟩ := bnR_s hb
      have hbc := bnR_c hb
      have hws := (wfc_step (S0.2.1 81) hwf hn59 hn63 hl).2
      obtain ⟨b, a, t, e0⟩ := (wfc_step (S0.2.1 81) hwf hn59 hn63 hl).1.2.2 hs1 hna (fun z => z.elim hn33 hn126)
      subst e0
      simp only [List.length_cons] at hl hwf
      obtain ⟨hsb, hsa, hst2⟩ := hst
      refine k_loc (L2 := [_, _, .int (nI (t.length + 2)), _, _, _]) rfl ?_
      refine k_iload eX12_says_7 rfl ?_
      refine k_aload_n eX12_says_9 rfl ?_
      refine GX12_53 eX12_says_10 rfl ?_
      refine k_iload_n eX12_says_13 rfl ?_
      refine k_ialdN (j := q) eX12_says_14 (ar66 _) (by omega) (Nat.le_of_ble_eq_true rfl) ?_
      refine k_topi (nI n0) h66 ?_
      refine k_icmp_geN 242 eX12_says_15 (by decide) (by omega) (by omega) (fun c_15 => by exfalso; omega) (fun c_15 => ?_)
      refine k_aload_n eX12_says_18 rfl ?_
      refine GX12_50 eX12_says_19 rfl ?_
      refine k_sipush (v := nI 200) eX12_says_22 (by decide) ?_
      refine k_iload_n eX12_says_25 rfl ?_
      refine k_imulN eX12_says_26 ?_
      refine k_iload eX12_says_27 rfl ?_
      refine k_iaddN eX12_says_29 ?_
      refine k_ialdN (j := ((200 * q) + j)) eX12_says_30 (ar65 _) (by omega) (Nat.le_of_ble_eq_true rfl) ?_
      refine k_topi (nI k) ((congrFun h65 _).trans hc) ?_
      refine k_istore (L2 := [_, _, _, _, _, _]) eX12_says_31 (Nat.le_of_ble_eq_true rfl) rfl ?_
      refine k_iload eX12_says_33 rfl ?_
      refine k_ldc eX12_says_35 kX12_218 rfl ?_
      refine k_topi (nI 100000) (by decide) ?_
      refine k_icmp_geN 47 eX12_says_37 (by decide) (by omega) (by omega) (fun c_37 => by exfalso; omega) (fun c_37 => ?_)
      refine k_iload eX12_says_40 rfl ?_
      refine k_bipush (v := nI 8) eX12_says_42 (by decide) ?_
      refine k_icmp_geN 81 eX12_says_44 (by decide) (by omega) (by omega) (fun c_44 => ?_) (fun c_44 => by exfalso; omega)
      refine k_iload eX12_says_81 rfl ?_
      refine k_bipush (v := nI 13) eX12_says_83 (by decide) ?_
      refine k_icmp_neN 118 eX12_says_85 (by decide) (by omega) (by omega) (fun c_85 => ?_) (fun c_85 => by exfalso; omega)
      refine k_iload eX12_says_118 rfl ?_
      refine k_bipush (v := nI 19) eX12_says_120 (by decide) ?_
      refine k_icmp_neN 145 eX12_says_122 (by decide) (by omega) (by omega) (fun c_122 => ?_) (fun c_122 => by exfalso; omega)
      refine k_iload eX12_says_145 rfl ?_
      refine k_bipush (v := nI 41) eX12_says_147 (by decide) ?_
      refine k_icmp_neN 173 eX12_says_149 (by decide) (by omega) (by omega) (fun c_149 => ?_) (fun c_149 => by exfalso; omega)
      refine k_iload eX12_says_173 rfl ?_
      refine k_bipush (v := nI 40) eX12_says_175 (by decide) ?_
      refine k_icmp_eqN 187 eX12_says_177 (by decide) (by omega) (by omega) (fun c_177 => by exfalso; omega) (fun c_177 => ?_)
      refine k_iload eX12_says_180 rfl ?_
      refine k_bipush (v := nI 42) eX12_says_182 (by decide) ?_
      refine k_icmp_neN 206 eX12_says_184 (by decide) (by omega) (by omega) (fun c_184 => ?_) (fun c_184 => by exfalso; omega)
      refine k_iinc (v := nI (t.length + 1)) (L2 := [_, _, _, _, _, _]) eX12_says_206 (Nat.le_of_ble_eq_true rfl) rfl (dec1 (Nat.succ_pos _)) rfl ?_
      refine k_aload_n eX12_says_209 rfl ?_
      refine GX12_105 eX12_says_210 rfl ?_
      refine k_iload_n eX12_says_213 rfl ?_
      refine k_iconst (v := nI 1) eX12_says_214 (by decide) ?_
      refine k_isubN eX12_says_215 (by omega) ?_
      refine k_iload eX12_says_216 rfl ?_
      refine k_aload_n eX12_says_218 rfl ?_
      refine GX12_105 eX12_says_219 rfl ?_
      refine k_iload_n eX12_says_222 rfl ?_
      refine k_iconst (v := nI 1) eX12_says_223 (by decide) ?_
      refine k_isubN eX12_says_224 (by omega) ?_
      refine k_ialdN (j := ((t.length + 1) - 1)) eX12_says_225 (ar82 _) (by omega) (Nat.le_of_ble_eq_true rfl) ?_
      refine k_topi (a) hsa ?_
      refine k_aload_n eX12_says_226 rfl ?_
      refine GX12_105 eX12_says_227 rfl ?_
      refine k_iload_n eX12_says_230 rfl ?_
      refine k_ialdN (j := (t.length + 1)) eX12_says_231 (ar82 _) (by omega) (Nat.le_of_ble_eq_true rfl) ?_
      refine k_topi (b) hsb ?_
      refine cS1 (M' := MX12_two) eX12_says_232 mX12_260 wX12_two sX12_two rfl (pX12_two hb a b) (by omega) (Nat.le_of_ble_eq_true rfl) ?_
      refine k_iastN (j := ((t.length + 1) - 1)) eX12_says_235 (ar82 _) (by omega) (Nat.le_of_ble_eq_true rfl) (as82 _ _) ?_
      refine k_iincN (g := 1) (a := j) (L2 := [_, _, _, _, _, _]) eX12_says_236 (Nat.le_of_ble_eq_true rfl) rfl rfl ?_
      refine k_goto 7 eX12_says_239 (by decide) ?_
      refine k_forget 5 (L2 := [_, _, _, _, _, _]) rfl ?_
      have es : stepL (S0.2.1 81) (-x) (b :: a :: t) = jn (-x) a b :: t := by rw [stepL, if_neg (not_not_intro hs1), if_neg hna, if_neg hn33, if_neg hn126]; rfl
      have hw9 := hws
      rw [es] at hw9
      rw [gv_st (st := b :: a :: t) hn59 hn63, es]
      refine k_loc (L2 := [_, _, .int (nI (jn (-x) a b :: t).length), _, _, _]) rfl ?_
      refine ih (j + 1) sk as (jn (-x) a b :: t) _ hcl2 (by omega) ?_ hw9.2 hw9.1 (wfq_st hwq hn59 hn63) hsk (f0.sa (by decide) _)
      exact stk_push hst2
set_option maxHeartbeats 400000 in
theorem pX12_says {S : k_S} {q : Nat} (hq : q < 3) {T : List Int32} (hT : TxM S q T) : Sp 2 0 0 MX12_says [.ref 52, .int (nI q)] (hp S) (Rx (some (.int (gv (S.2.1 81) T false []))) (fun S' => Frm [] [82] [] S S')) := by
  refine Sp_of (by decide +kernel) (Nat.le_of_ble_eq_true rfl) ?_
  show AW none MX12_says 2 0 0 0 [.ref 52, .int (nI q), .null, .null, .null, .null] [] (hp S) _
  refine k_iconst (v := nI 0) eX12_says_0 (by decide) ?_
  refine k_istore_n (L2 := [_, _, _, _, _, _]) eX12_says_1 (Nat.le_of_ble_eq_true rfl) rfl ?_
  refine k_iconst (v := nI 0) eX12_says_2 (by decide) ?_
  refine k_istore_n (L2 := [_, _, _, _, _, _]) eX12_says_3 (Nat.le_of_ble_eq_true rfl) rfl ?_
  refine k_iconst (v := nI 0) eX12_says_4 (by decide) ?_
  refine k_istore (L2 := [_, _, _, _, _, _]) eX12_says_5 (Nat.le_of_ble_eq_true rfl) rfl ?_
  exact lX12_says (by decide) (S0 := S) hq hT.1 hT.2.1 T 0 false false [] S hT.2.2.1 (by omega) trivial (by decide) hT.2.2.2.1 hT.2.2.2.2 (fun z => by cases z) (Frm.rf S)
