/-- nothing has changed but ints I, rows A, long rows J -/
def Frm (I A J : List Nat) (S T : k_S) : Prop := (∀ k, k ∉ I → T.1 k = S.1 k) ∧ (∀ a, a ∉ A → T.2.1 a = S.2.1 a) ∧ ∀ a, a ∉ J → T.2.2 a = S.2.2 a
theorem Frm.rf {I A J : List Nat} (S : k_S) : Frm I A J S S := ⟨fun _ _ => rfl, fun _ _ => rfl, fun _ _ => rfl⟩
theorem Frm.tr {I A J : List Nat} {S T U : k_S} (h : Frm I A J S T) (h2 : Frm I A J T U) : Frm I A J S U := ⟨fun k hk => (h2.1 k hk).trans (h.1 k hk), fun k hk => (h2.2.1 k hk).trans (h.2.1 k hk), fun k hk => (h2.2.2 k hk).trans (h.2.2 k hk)⟩
theorem Frm.wk {I A J I2 A2 J2 : List Nat} {S T : k_S} (h : Frm I A J S T) (h1 : ∀ k ∈ I, k ∈ I2) (h2 : ∀ k ∈ A, k ∈ A2) (h3 : ∀ k ∈ J, k ∈ J2) : Frm I2 A2 J2 S T := ⟨fun k hk => h.1 k (fun q => hk (h1 k q)), fun k hk => h.2.1 k (fun q => hk (h2 k q)), fun k hk => h.2.2 k (fun q => hk (h3 k q))⟩
theorem Frm.si {I A J : List Nat} {S T : k_S} (h : Frm I A J S T) {k : Nat} (hk : k ∈ I) (v : Int32) : Frm I A J S (si T k v) := ⟨fun j hj => by show va_up T.1 k v j = _; rw [va_up, if_neg (fun q : j = k => hj (by rw [q]; exact hk))]; exact h.1 j hj, h.2.1, h.2.2⟩
theorem Frm.sa {I A J : List Nat} {S T : k_S} (h : Frm I A J S T) {a : Nat} (ha : a ∈ A) (f : Nat → Int32) : Frm I A J S (sa T a f) := ⟨h.1, fun j hj => by show va_up T.2.1 a f j = _; rw [va_up, if_neg (fun q : j = a => hj (by rw [q]; exact ha))]; exact h.2.1 j hj, h.2.2⟩
theorem Frm.sj {I A J : List Nat} {S T : k_S} (h : Frm I A J S T) {a : Nat} (ha : a ∈ J) (f : Nat → Int64) : Frm I A J S (sj T a f) := ⟨h.1, h.2.1, fun j hj => by show va_up T.2.2 a f j = _; rw [va_up, if_neg (fun q : j = a => hj (by rw [q]; exact ha))]; exact h.2.2 j hj⟩
/-- what a sign makes of two -/
def jn (s a b : Int32) : Int32 := if s = nI 124 then b2i (a ≠ 0 ∨ b ≠ 0) else if s = nI 38 then b2i (a ≠ 0 ∧ b ≠ 0) else if s = nI 60 then b2i (a < b) else if s = nI 61 then b2i (a = b) else if s = nI 62 then b2i (b < a) else if s = nI 43 then a + b else if s = nI 45 then a - b else if s = nI 42 then a * b else if s = nI 47 then (if b = 0 then nI 0 else a / b) else if s = nI 37 then (if b = 0 then nI 0 else a - a / b * b) else nI 0
set_option maxHeartbeats 400000 in
theorem pX9_joined124 {h : k_H} (a b : Int32) : Sp 0 0 0 MX9_joined [.int (nI 124), .int (a), .int (b)] h (Rt (some (.int (b2i (a ≠ 0 ∨ b ≠ 0)))) (h)) := by
  refine Sp_of (by decide +kernel) (Nat.le_of_ble_eq_true rfl) ?_
  show AW none MX9_joined 0 0 0 0 [.int (nI 124), .int (a), .int (b)] [] h _
  refine k_iload_n eX9_joined_0 rfl ?_
  refine k_look 92 eX9_joined_1 (by decide) (off := 91) (by decide) (by decide) ?_
  refine k_iload_n eX9_joined_92 rfl ?_
  refine k_if_ne 100 eX9_joined_93 (by decide) (fun c_93 => ?_) (fun c_93 => ?_)
  · refine k_iconst (v := nI 1) eX9_joined_100 (by decide) ?_
    refine k_goto 105 eX9_joined_101 (by decide) ?_
    refine k_ireturn eX9_joined_105 rfl rfl ?_
    exact ⟨rt_t (by first | exact Or.inl c_93 | exact Or.inr c_97), rfl⟩
  refine k_iload_n eX9_joined_96 rfl ?_
  refine k_if_eq 104 eX9_joined_97 (by decide) (fun c_97 => ?_) (fun c_97 => ?_)
  · refine k_iconst (v := nI 0) eX9_joined_104 (by decide) ?_
    refine k_ireturn eX9_joined_105 rfl rfl ?_
    exact ⟨rt_f (fun q => q.elim (fun q => q c_93) (fun q => q c_97)), rfl⟩
  refine k_iconst (v := nI 1) eX9_joined_100 (by decide) ?_
  refine k_goto 105 eX9_joined_101 (by decide) ?_
  refine k_ireturn eX9_joined_105 rfl rfl ?_
  exact ⟨rt_t (by first | exact Or.inl c_93 | exact Or.inr c_97), rfl⟩
set_option maxHeartbeats 400000 in
theorem pX9_joined38 {h : k_H} (a b : Int32) : Sp 0 0 0 MX9_joined [.int (nI 38), .int (a), .int (b)] h (Rt (some (.int (b2i (a ≠ 0 ∧ b ≠ 0)))) (h)) := by
  refine Sp_of (by decide +kernel) (Nat.le_of_ble_eq_true rfl) ?_
  show AW none MX9_joined 0 0 0 0 [.int (nI 38), .int (a), .int (b)] [] h _
  refine k_iload_n eX9_joined_0 rfl ?_
  refine k_look 106 eX9_joined_1 (by decide) (off := 105) (by decide) (by decide) ?_
  refine k_iload_n eX9_joined_106 rfl ?_
  refine k_if_eq 118 eX9_joined_107 (by decide) (fun c_107 => ?_) (fun c_107 => ?_)
  · refine k_iconst (v := nI 0) eX9_joined_118 (by decide) ?_
    refine k_ireturn eX9_joined_119 rfl rfl ?_
    exact ⟨rt_f (fun q => by first | exact q.1 c_107 | exact q.2 c_111), rfl⟩
  refine k_iload_n eX9_joined_110 rfl ?_
  refine k_if_eq 118 eX9_joined_111 (by decide) (fun c_111 => ?_) (fun c_111 => ?_)
  · refine k_iconst (v := nI 0) eX9_joined_118 (by decide) ?_
    refine k_ireturn eX9_joined_119 rfl rfl ?_
    exact ⟨rt_f (fun q => by first | exact q.1 c_107 | exact q.2 c_111), rfl⟩
  refine k_iconst (v := nI 1) eX9_joined_114 (by decide) ?_
  refine k_goto 119 eX9_joined_115 (by decide) ?_
  refine k_ireturn eX9_joined_119 rfl rfl ?_
  exact ⟨rt_t (⟨c_107, c_111⟩), rfl⟩
set_option maxHeartbeats 400000 in
theorem pX9_joined60 {h : k_H} (a b : Int32) : Sp 0 0 0 MX9_joined [.int (nI 60), .int (a), .int (b)] h (Rt (some (.int (b2i (a < b)))) (h)) := by
  refine Sp_of (by decide +kernel) (Nat.le_of_ble_eq_true rfl) ?_
  show AW none MX9_joined 0 0 0 0 [.int (nI 60), .int (a), .int (b)] [] h _
  refine k_iload_n eX9_joined_0 rfl ?_
  refine k_look 120 eX9_joined_1 (by decide) (off := 119) (by decide) (by decide) ?_
  refine k_iload_n eX9_joined_120 rfl ?_
  refine k_iload_n eX9_joined_121 rfl ?_
  refine k_icmp_ge 129 eX9_joined_122 (by decide) (fun c_122 => ?_) (fun c_122 => ?_)
  · refine k_iconst (v := nI 0) eX9_joined_129 (by decide) ?_
    refine k_ireturn eX9_joined_130 rfl rfl ?_
    exact ⟨rt_f (Int32.not_lt.mpr c_122), rfl⟩
  refine k_iconst (v := nI 1) eX9_joined_125 (by decide) ?_
  refine k_goto 130 eX9_joined_126 (by decide) ?_
  refine k_ireturn eX9_joined_130 rfl rfl ?_
  exact ⟨rt_t (Int32.not_le.mp c_122), rfl⟩
set_option maxHeartbeats 400000 in
theorem pX9_joined61 {h : k_H} (a b : Int32) : Sp 0 0 0 MX9_joined [.int (nI 61), .int (a), .int (b)] h (Rt (some (.int (b2i (a = b)))) (h)) := by
  refine Sp_of (by decide +kernel) (Nat.le_of_ble_eq_true rfl) ?_
  show AW none MX9_joined 0 0 0 0 [.int (nI 61), .int (a), .int (b)] [] h _
  refine k_iload_n eX9_joined_0 rfl ?_
  refine k_look 131 eX9_joined_1 (by decide) (off := 130) (by decide) (by decide) ?_
  refine k_iload_n eX9_joined_131 rfl ?_
  refine k_iload_n eX9_joined_132 rfl ?_
  refine k_icmp_ne 140 eX9_joined_133 (by decide) (fun c_133 => ?_) (fun c_133 => ?_)
  · refine k_iconst (v := nI 0) eX9_joined_140 (by decide) ?_
    refine k_ireturn eX9_joined_141 rfl rfl ?_
    exact ⟨rt_f (c_133), rfl⟩
  refine k_iconst (v := nI 1) eX9_joined_136 (by decide) ?_
  refine k_goto 141 eX9_joined_137 (by decide) ?_
  refine k_ireturn eX9_joined_141 rfl rfl ?_
  exact ⟨rt_t (c_133), rfl⟩
set_option maxHeartbeats 400000 in
theorem pX9_joined62 {h : k_H} (a b : Int32) : Sp 0 0 0 MX9_joined [.int (nI 62), .int (a), .int (b)] h (Rt (some (.int (b2i (b < a)))) (h)) := by
  refine Sp_of (by decide +kernel) (Nat.le_of_ble_eq_true rfl) ?_
  show AW none MX9_joined 0 0 0 0 [.int (nI 62), .int (a), .int (b)] [] h _
  refine k_iload_n eX9_joined_0 rfl ?_
  refine k_look 142 eX9_joined_1 (by decide) (off := 141) (by decide) (by decide) ?_
  refine k_iload_n eX9_joined_142 rfl ?_
  refine k_iload_n eX9_joined_143 rfl ?_
  refine k_icmp_le 151 eX9_joined_144 (by decide) (fun c_144 => ?_) (fun c_144 => ?_)
  · refine k_iconst (v := nI 0) eX9_joined_151 (by decide) ?_
    refine k_ireturn eX9_joined_152 rfl rfl ?_
    exact ⟨rt_f (Int32.not_lt.mpr c_144), rfl⟩
  refine k_iconst (v := nI 1) eX9_joined_147 (by decide) ?_
  refine k_goto 152 eX9_joined_148 (by decide) ?_
  refine k_ireturn eX9_joined_152 rfl rfl ?_
  exact ⟨rt_t (Int32.not_le.mp c_144), rfl⟩
set_option maxHeartbeats 400000 in
theorem pX9_joined43 {h : k_H} (a b : Int32) : Sp 0 0 0 MX9_joined [.int (nI 43), .int (a), .int (b)] h (Rt (some (.int (a + b))) (h)) := by
  refine Sp_of (by decide +kernel) (Nat.le_of_ble_eq_true rfl) ?_
  show AW none MX9_joined 0 0 0 0 [.int (nI 43), .int (a), .int (b)] [] h _
  refine k_iload_n eX9_joined_0 rfl ?_
  refine k_look 153 eX9_joined_1 (by decide) (off := 152) (by decide) (by decide) ?_
  refine k_iload_n eX9_joined_153 rfl ?_
  refine k_iload_n eX9_joined_154 rfl ?_
  refine k_iadd eX9_joined_155 ?_
  refine k_ireturn eX9_joined_156 rfl rfl ?_
  exact ⟨rfl, rfl⟩
set_option maxHeartbeats 400000 in
theorem pX9_joined45 {h : k_H} (a b : Int32) : Sp 0 0 0 MX9_joined [.int (nI 45), .int (a), .int (b)] h (Rt (some (.int (a - b))) (h)) := by
  refine Sp_of (by decide +kernel) (Nat.le_of_ble_eq_true rfl) ?_
  show AW none MX9_joined 0 0 0 0 [.int (nI 45), .int (a), .int (b)] [] h _
  refine k_iload_n eX9_joined_0 rfl ?_
  refine k_look 157 eX9_joined_1 (by decide) (off := 156) (by decide) (by decide) ?_
  refine k_iload_n eX9_joined_157 rfl ?_
  refine k_iload_n eX9_joined_158 rfl ?_
  refine k_isub eX9_joined_159 ?_
  refine k_ireturn eX9_joined_160 rfl rfl ?_
  exact ⟨rfl, rfl⟩
set_option maxHeartbeats 400000 in
theorem pX9_joined42 {h : k_H} (a b : Int32) : Sp 0 0 0 MX9_joined [.int (nI 42), .int (a), .int (b)] h (Rt (some (.int (a * b))) (h)) := by
  refine Sp_of (by decide +kernel) (Nat.le_of_ble_eq_true rfl) ?_
  show AW none MX9_joined 0 0 0 0 [.int (nI 42), .int (a), .int (b)] [] h _
  refine k_iload_n eX9_joined_0 rfl ?_
  refine k_look 161 eX9_joined_1 (by decide) (off := 160) (by decide) (by decide) ?_
  refine k_iload_n eX9_joined_161 rfl ?_
  refine k_iload_n eX9_joined_162 rfl ?_
  refine k_imul eX9_joined_163 ?_
  refine k_ireturn eX9_joined_164 rfl rfl ?_
  exact ⟨rfl, rfl⟩
set_option maxHeartbeats 400000 in
theorem pX9_joined47 {h : k_H} (a b : Int32) : Sp 0 0 0 MX9_joined [.int (nI 47), .int (a), .int (b)] h (Rt (some (.int (if b = 0 then nI 0 else a / b))) (h)) := by
  refine Sp_of (by decide +kernel) (Nat.le_of_ble_eq_true rfl) ?_
  show AW none MX9_joined 0 0 0 0 [.int (nI 47), .int (a), .int (b)] [] h _
  refine k_iload_n eX9_joined_0 rfl ?_
  refine k_look 165 eX9_joined_1 (by decide) (off := 164) (by decide) (by decide) ?_
  refine k_iload_n eX9_joined_165 rfl ?_
  refine k_if_ne 173 eX9_joined_166 (by decide) (fun c_166 => ?_) (fun c_166 => ?_)
  · refine k_iload_n eX9_joined_173 rfl ?_
    refine k_iload_n eX9_joined_174 rfl ?_
    refine k_idiv eX9_joined_175 c_166 ?_
    refine k_ireturn eX9_joined_176 rfl rfl ?_
    exact ⟨by rw [if_neg c_166], rfl⟩
  refine k_iconst (v := nI 0) eX9_joined_169 (by decide) ?_
  refine k_goto 176 eX9_joined_170 (by decide) ?_
  refine k_ireturn eX9_joined_176 rfl rfl ?_
  exact ⟨by rw [if_pos c_166], rfl⟩
set_option maxHeartbeats 400000 in
theorem pX9_joined37 {h : k_H} (a b : Int32) : Sp 0 0 0 MX9_joined [.int (nI 37), .int (a), .int (b)] h (Rt (some (.int (if b = 0 then nI 0 else a - a / b * b))) (h)) := by
  refine Sp_of (by decide +kernel) (Nat.le_of_ble_eq_true rfl) ?_
  show AW none MX9_joined 0 0 0 0 [.int (nI 37), .int (a), .int (b)] [] h _
  refine k_iload_n eX9_joined_0 rfl ?_
  refine k_look 177 eX9_joined_1 (by decide) (off := 176) (by decide) (by decide) ?_
  refine k_iload_n eX9_joined_177 rfl ?_
  refine k_if_ne 185 eX9_joined_178 (by decide) (fun c_178 => ?_) (fun c_178 => ?_)
  · refine k_iload_n eX9_joined_185 rfl ?_
    refine k_iload_n eX9_joined_186 rfl ?_
    refine k_irem eX9_joined_187 c_178 ?_
    refine k_ireturn eX9_joined_188 rfl rfl ?_
    exact ⟨by rw [if_neg c_178], rfl⟩
  refine k_iconst (v := nI 0) eX9_joined_181 (by decide) ?_
  refine k_goto 188 eX9_joined_182 (by decide) ?_
  refine k_ireturn eX9_joined_188 rfl rfl ?_
  exact ⟨by rw [if_pos c_178], rfl⟩
set_option maxHeartbeats 400000 in
theorem pX9_joinedN {h : k_H} (a b : Int32) (s : Int32) (h37 : ¬ s = nI 37) (h38 : ¬ s = nI 38) (h42 : ¬ s = nI 42) (h43 : ¬ s = nI 43) (h45 : ¬ s = nI 45) (h47 : ¬ s = nI 47) (h60 : ¬ s = nI 60) (h61 : ¬ s = nI 61) (h62 : ¬ s = nI 62) (h124 : ¬ s = nI 124) : Sp 0 0 0 MX9_joined [.int (s), .int (a), .int (b)] h (Rt (some (.int (nI 0))) (h)) := by
  refine Sp_of (by decide +kernel) (Nat.le_of_ble_eq_true rfl) ?_
  show AW none MX9_joined 0 0 0 0 [.int (s), .int (a), .int (b)] [] h _
  refine k_iload_n eX9_joined_0 rfl ?_
  refine k_look 189 eX9_joined_1 (by decide) (off := 188) (by show Op.lookupswitch.offset [(37, 176), (38, 105), (42, 160), (43, 152), (45, 156), (47, 164), (60, 119), (61, 130), (62, 141), (124, 91)] 188 s.toInt = 188; rw [lv_osw (k := nI 37) h37 (by decide), lv_osw (k := nI 38) h38 (by decide), lv_osw (k := nI 42) h42 (by decide), lv_osw (k := nI 43) h43 (by decide), lv_osw (k := nI 45) h45 (by decide), lv_osw (k := nI 47) h47 (by decide), lv_osw (k := nI 60) h60 (by decide), lv_osw (k := nI 61) h61 (by decide), lv_osw (k := nI 62) h62 (by decide), lv_osw (k := nI 124) h124 (by decide)]; rfl) (by decide) ?_
  refine k_iconst (v := nI 0) eX9_joined_189 (by decide) ?_
  refine k_ireturn eX9_joined_190 rfl rfl ?_
  exact ⟨rfl, rfl⟩
theorem pX9_joined {h : k_H} (s a b : Int32) : Sp 0 0 0 MX9_joined [.int s, .int a, .int b] h (Rt (some (.int (jn s a b))) h) := by
  by_cases h37 : s = nI 37
  · subst h37; exact pX9_joined37 a b
  by_cases h38 : s = nI 38
  · subst h38; exact pX9_joined38 a b
  by_cases h42 : s = nI 42
  · subst h42; exact pX9_joined42 a b
  by_cases h43 : s = nI 43
  · subst h43; exact pX9_joined43 a b
  by_cases h45 : s = nI 45
  · subst h45; exact pX9_joined45 a b
  by_cases h47 : s = nI 47
  · subst h47; exact pX9_joined47 a b
  by_cases h60 : s = nI 60
  · subst h60; exact pX9_joined60 a b
  by_cases h61 : s = nI 61
  · subst h61; exact pX9_joined61 a b
  by_cases h62 : s = nI 62
  · subst h62; exact pX9_joined62 a b
  by_cases h124 : s = nI 124
  · subst h124; exact pX9_joined124 a b
  have e : jn s a b = nI 0 := by unfold jn; simp only [h37, h38, h42, h43, h45, h47, h60, h61, h62, h124, if_false]
  rw [e]
  exact pX9_joinedN a b s h37 h38 h42 h43 h45 h47 h60 h61 h62 h124
/-- a step of the text on its stack -/
def stepL (nm : Nat → Int32) (s : Int32) (st : List Int32) : List Int32 :=
  if ¬ 0 < s then (-s) :: st else if 0 ≤ nam s then nm (ix (nam s)) :: st else if s = nI 33 then b2i (hdI st = 0) :: st.tail else if s = nI 126 then (-(hdI st)) :: st.tail else jn s (hdI st.tail) (hdI st) :: st.tail.tail
/-- what a text gives -/
def gv (nm : Nat → Int32) : List Int32 → Bool → List Int32 → Int32
  | [], _, _ => nI 0
  | x :: r, sk, st => if sk = true then gv nm r (decide (¬ -x = nI 59)) st else if -x = nI 59 then hdI st else if -x = nI 63 then gv nm r (decide (hdI st = 0)) st.tail else gv nm r false (stepL nm (-x) st)
/-- how deep the stack is told to be, all along -/
def wfc : List Int32 → Nat → Prop
  | [], d => d = 0
  | x :: r, d => if -x = nI 59 ∨ -x = nI 63 then d = 1 ∧ wfc r 0 else if ¬ 0 < -x ∨ 0 ≤ nam (-x) then d < 120 ∧ wfc r (d + 1) else if -x = nI 33 ∨ -x = nI 126 then 1 ≤ d ∧ wfc r d else 2 ≤ d ∧ wfc r (d - 1)
def cds (f : Nat → Int32) (i : Nat) : Nat → List Int32
  | 0 => []
  | k + 1 => f i :: cds f (i + 1) k
theorem nam_rng (s : Int32) (h : 0 ≤ nam s) : nam s = nI (ix (nam s)) ∧ ix (nam s) < 7 := by
  unfold nam at h ⊢
  repeat' split at h
  all_goals first | (simp only [*, if_true, if_false]; decide) | (exact absurd h (by decide))
def bcS39 (S : k_S) : Nat → k_S
  | 0 => si S 1951 (S.1 51)
  | n + 1 => sa (bcS39 S n) 40 (va_up ((bcS39 S n).2.1 40) n (S.2.1 2 n))
theorem bcS39_1 (S : k_S) : ∀ n, (bcS39 S n).1 = (si S 1951 (S.1 51)).1
  | 0 => rfl
  | n + 1 => bcS39_1 S n
theorem bcS39_3 (S : k_S) : ∀ n, (bcS39 S n).2.2 = S.2.2
  | 0 => rfl
  | n + 1 => bcS39_3 S n
theorem bcS39_2 (S : k_S) {k : Nat} (h : k ≠ 40) : ∀ n, (bcS39 S n).2.1 k = S.2.1 k
  | 0 => rfl
  | n + 1 => by rw [bcS39]; simp only [sa, va_up, if_neg h]; exact bcS39_2 S h n
theorem bcS39_c (S : k_S) : ∀ n, (bcS39 S n).2.1 40 = fillN (S.2.1 2) (S.2.1 40) n
  | 0 => rfl
  | n + 1 => by rw [fillN, ← bcS39_c S n]; rfl
set_option maxHeartbeats 400000 in
theorem lX9_become39 {d : Nat} {Po : Option Value → k_H → Prop} (hdd : 1 ≤ d) {S : k_S} {n0 : Nat} (hn : S.1 51 = nI n0) (hn0 : n0 ≤ 240) (kx : AW none MX9_become d 0 0 40 [.ref 39, .ref 1, .int (nI n0)] [] (hp (bcS39 S n0)) Po) : ∀ (n j : Nat), j + n = n0 → AW none MX9_become d 0 0 10 [.ref 39, .ref 1, .int (nI j)] [] (hp (bcS39 S j)) Po := by
  intro n
  induction n with
  | zero =>
    intro j hj
    rw [show j = n0 by omega]
    refine k_iload_n eX9_become_10 rfl ?_
    refine k_aload_n eX9_become_11 rfl ?_
    refine GX9_15_39 eX9_become_12 rfl ?_
    refine k_topi (nI n0) ((congrFun (bcS39_1 S n0) 1951).trans hn) ?_
    refine k_icmp_geN 40 eX9_become_15 (by decide) (by omega) (by omega) (fun c_15 => ?_) (fun c_15 => by exfalso; omega)
    exact kx
  | succ n ih =>
    intro j hj
    obtain ⟨T, hT⟩ : ∃ T, bcS39 S j = T := ⟨_, rfl⟩
    have hTn : T.1 1951 = nI n0 := by rw [← hT]; exact (congrFun (bcS39_1 S j) 1951).trans hn
    have hT2 : T.2.1 2 = S.2.1 2 := by rw [← hT]; exact bcS39_2 S (by decide) j
    rw [hT]
    refine k_iload_n eX9_become_10 rfl ?_
    refine k_aload_n eX9_become_11 rfl ?_
    refine GX9_15_39 eX9_become_12 rfl ?_
    refine k_topi (nI n0) hTn ?_
    refine k_icmp_geN 40 eX9_become_15 (by decide) (by omega) (by omega) (fun c_15 => by exfalso; omega) (fun c_15 => ?_)
    refine k_aload_n eX9_become_18 rfl ?_
    refine GX9_9_39 eX9_become_19 rfl ?_
    refine k_iload_n eX9_become_22 rfl ?_
    refine k_aload_n eX9_become_23 rfl ?_
    refine GX9_25 eX9_become_24 rfl ?_
    refine k_iload_n eX9_become_27 rfl ?_
    refine cN1 (M' := MX11_read) eX9_become_28 mX9_26 wX11_read sX11_read rfl (pX11_readN (j := j) (ar2 _) (by omega) (by decide)) (by omega) (Nat.le_of_ble_eq_true rfl) ?_
    refine k_topi ((S.2.1 2 j)) (congrFun hT2 j) ?_
    refine cN0 (M' := MX11_write) eX9_become_31 mX9_30 wX11_write sX11_write rfl (pX11_writeN (j := j) (v := (S.2.1 2 j)) (ar40 _) (by omega) (by decide) (as40 _ _)) (by omega) (Nat.le_of_ble_eq_true rfl) ?_
    refine k_iincN (g := 1) (a := j) (L2 := [_, _, _]) eX9_become_34 (Nat.le_of_ble_eq_true rfl) rfl rfl ?_
    refine k_goto 10 eX9_become_37 (by decide) ?_
    have q := ih (j + 1) (by omega)
    rw [bcS39, hT] at q
    exact q
set_option maxHeartbeats 400000 in
theorem pX9_become39 {S : k_S} {n0 : Nat} (hn : S.1 51 = nI n0) (hn0 : n0 ≤ 240) : Sp 1 0 0 MX9_become [.ref 39, .ref 1] (hp S) (Rt (none) (hp (bcS39 S n0))) := by
  refine Sp_of (by decide +kernel) (Nat.le_of_ble_eq_true rfl) ?_
  show AW none MX9_become 1 0 0 0 [.ref 39, .ref 1, .null] [] (hp S) _
  refine k_aload_n eX9_become_0 rfl ?_
  refine k_aload_n eX9_become_1 rfl ?_
  refine GX9_22 eX9_become_2 rfl ?_
  refine PX9_15_39 eX9_become_5 rfl ?_
  refine k_iconst (v := nI 0) eX9_become_8 (by decide) ?_
  refine k_istore_n (L2 := [_, _, _]) eX9_become_9 (Nat.le_of_ble_eq_true rfl) rfl ?_
  refine lX9_become39 (by decide) (S := S) hn hn0 ?_ n0 0 (by omega)
  refine k_return eX9_become_40 rfl ?_
  exact ⟨rfl, rfl⟩
set_option maxHeartbeats 400000 in
theorem pX9_push39 {S : k_S} {n : Nat} (hn : S.1 1953 = nI n) (hn2 : n < 120) (v : Int32) : Sp 1 0 0 MX9_push [.ref 39, .int (v)] (hp S) (Rt (none) (hp (si (sa S 41 (va_up (S.2.1 41) n v)) 1953 (nI (n + 1))))) := by
  refine Sp_of (by decide +kernel) (Nat.le_of_ble_eq_true rfl) ?_
  show AW none MX9_push 1 0 0 0 [.ref 39, .int (v)] [] (hp S) _
  refine k_aload_n eX9_push_0 rfl ?_
  refine GX9_19_39 eX9_push_1 rfl ?_
  refine k_aload_n eX9_push_4 rfl ?_
  refine GX9_34_39 eX9_push_5 rfl ?_
  refine k_topi (nI n) hn ?_
  refine k_iload_n eX9_push_8 rfl ?_
  refine cN0 (M' := MX11_write) eX9_push_9 mX9_30 wX11_write sX11_write rfl (pX11_writeN (j := n) (v := v) (ar41 _) (by omega) (by decide) (as41 _ _)) (by decide) (Nat.le_of_ble_eq_true rfl) ?_
  refine k_aload_n eX9_push_12 rfl ?_
  refine k_dup eX9_push_13 rfl ?_
  refine GX9_34_39 eX9_push_14 rfl ?_
  refine k_topi (nI n) hn ?_
  refine k_iconst (v := nI 1) eX9_push_17 (by decide) ?_
  refine k_iaddN eX9_push_18 ?_
  refine PX9_34_39 eX9_push_19 rfl ?_
  refine k_return eX9_push_22 rfl ?_
  exact ⟨rfl, rfl⟩
set_option maxHeartbeats 400000 in
theorem pX9_pop39 {S : k_S} {n : Nat} (hn : S.1 1953 = nI (n + 1)) (hn2 : n < 120) : Sp 1 0 0 MX9_pop [.ref 39] (hp S) (Rt (some (.int (S.2.1 41 n))) (hp (si S 1953 (nI n)))) := by
  refine Sp_of (by decide +kernel) (Nat.le_of_ble_eq_true rfl) ?_
  show AW none MX9_pop 1 0 0 0 [.ref 39] [] (hp S) _
  refine k_aload_n eX9_pop_0 rfl ?_
  refine k_dup eX9_pop_1 rfl ?_
  refine GX9_34_39 eX9_pop_2 rfl ?_
  refine k_topi (nI (n + 1)) hn ?_
  refine k_iconst (v := nI 1) eX9_pop_5 (by decide) ?_
  refine k_isubN eX9_pop_6 (by omega) ?_
  refine PX9_34_39 eX9_pop_7 rfl ?_
  refine k_aload_n eX9_pop_10 rfl ?_
  refine GX9_19_39 eX9_pop_11 rfl ?_
  refine k_aload_n eX9_pop_14 rfl ?_
  refine GX9_34_39 eX9_pop_15 rfl ?_
  refine k_topi (nI n) rfl ?_
  refine cN1 (M' := MX11_read) eX9_pop_18 mX9_26 wX11_read sX11_read rfl (pX11_readN (j := n) (ar41 _) (by omega) (by decide)) (by decide) (Nat.le_of_ble_eq_true rfl) ?_
  refine k_ireturn eX9_pop_21 rfl rfl ?_
  exact ⟨rfl, rfl⟩
def bcS42 (S : k_S) : Nat → k_S
  | 0 => si S 2101 (S.1 51)
  | n + 1 => sa (bcS42 S n) 43 (va_up ((bcS42 S n).2.1 43) n (S.2.1 2 n))
theorem bcS42_1 (S : k_S) : ∀ n, (bcS42 S n).1 = (si S 2101 (S.1 51)).1
  | 0 => rfl
  | n + 1 => bcS42_1 S n
theorem bcS42_3 (S : k_S) : ∀ n, (bcS42 S n).2.2 = S.2.2
  | 0 => rfl
  | n + 1 => bcS42_3 S n
theorem bcS42_2 (S : k_S) {k : Nat} (h : k ≠ 43) : ∀ n, (bcS42 S n).2.1 k = S.2.1 k
  | 0 => rfl
  | n + 1 => by rw [bcS42]; simp only [sa, va_up, if_neg h]; exact bcS42_2 S h n
theorem bcS42_c (S : k_S) : ∀ n, (bcS42 S n).2.1 43 = fillN (S.2.1 2) (S.2.1 43) n
  | 0 => rfl
  | n + 1 => by rw [fillN, ← bcS42_c S n]; rfl
set_option maxHeartbeats 400000 in
theorem lX9_become42 {d : Nat} {Po : Option Value → k_H → Prop} (hdd : 1 ≤ d) {S : k_S} {n0 : Nat} (hn : S.1 51 = nI n0) (hn0 : n0 ≤ 240) (kx : AW none MX9_become d 0 0 40 [.ref 42, .ref 1, .int (nI n0)] [] (hp (bcS42 S n0)) Po) : ∀ (n j : Nat), j + n = n0 → AW none MX9_become d 0 0 10 [.ref 42, .ref 1, .int (nI j)] [] (hp (bcS42 S j)) Po := by
  intro n
  induction n with
  | zero =>
    intro j hj
    rw [show j = n0 by omega]
    refine k_iload_n eX9_become_10 rfl ?_
    refine k_aload_n eX9_become_11 rfl ?_
    refine GX9_15_42 eX9_become_12 rfl ?_
    refine k_topi (nI n0) ((congrFun (bcS42_1 S n0) 2101).trans hn) ?_
    refine k_icmp_geN 40 eX9_become_15 (by decide) (by omega) (by omega) (fun c_15 => ?_) (fun c_15 => by exfalso; omega)
    exact kx
  | succ n ih =>
    intro j hj
    obtain ⟨T, hT⟩ : ∃ T, bcS42 S j = T := ⟨_, rfl⟩
    have hTn : T.1 2101 = nI n0 := by rw [← hT]; exact (congrFun (bcS42_1 S j) 2101).trans hn
    have hT2 : T.2.1 2 = S.2.1 2 := by rw [← hT]; exact bcS42_2 S (by decide) j
    rw [hT]
    refine k_iload_n eX9_become_10 rfl ?_
    refine k_aload_n eX9_become_11 rfl ?_
    refine GX9_15_42 eX9_become_12 rfl ?_
    refine k_topi (nI n0) hTn ?_
    refine k_icmp_geN 40 eX9_become_15 (by decide) (by omega) (by omega) (fun c_15 => by exfalso; omega) (fun c_15 => ?_)
    refine k_aload_n eX9_become_18 rfl ?_
    refine GX9_9_42 eX9_become_19 rfl ?_
    refine k_iload_n eX9_become_22 rfl ?_
    refine k_aload_n eX9_become_23 rfl ?_
    refine GX9_25 eX9_become_24 rfl ?_
    refine k_iload_n eX9_become_27 rfl ?_
    refine cN1 (M' := MX11_read) eX9_become_28 mX9_26 wX11_read sX11_read rfl (pX11_readN (j := j) (ar2 _) (by omega) (by decide)) (by omega) (Nat.le_of_ble_eq_true rfl) ?_
    refine k_topi ((S.2.1 2 j)) (congrFun hT2 j) ?_
    refine cN0 (M' := MX11_write) eX9_become_31 mX9_30 wX11_write sX11_write rfl (pX11_writeN (j := j) (v := (S.2.1 2 j)) (ar43 _) (by omega) (by decide) (as43 _ _)) (by omega) (Nat.le_of_ble_eq_true rfl) ?_
    refine k_iincN (g := 1) (a := j) (L2 := [_, _, _]) eX9_become_34 (Nat.le_of_ble_eq_true rfl) rfl rfl ?_
    refine k_goto 10 eX9_become_37 (by decide) ?_
    have q := ih (j + 1) (by omega)
    rw [bcS42, hT] at q
    exact q
set_option maxHeartbeats 400000 in
theorem pX9_become42 {S : k_S} {n0 : Nat} (hn : S.1 51 = nI n0) (hn0 : n0 ≤ 240) : Sp 1 0 0 MX9_become [.ref 42, .ref 1] (hp S) (Rt (none) (hp (bcS42 S n0))) := by
  refine Sp_of (by decide +kernel) (Nat.le_of_ble_eq_true rfl) ?_
  show AW none MX9_become 1 0 0 0 [.ref 42, .ref 1, .null] [] (hp S) _
  refine k_aload_n eX9_become_0 rfl ?_
  refine k_aload_n eX9_become_1 rfl ?_
  refine GX9_22 eX9_become_2 rfl ?_
  refine PX9_15_42 eX9_become_5 rfl ?_
  refine k_iconst (v := nI 0) eX9_become_8 (by decide) ?_
  refine k_istore_n (L2 := [_, _, _]) eX9_become_9 (Nat.le_of_ble_eq_true rfl) rfl ?_
  refine lX9_become42 (by decide) (S := S) hn hn0 ?_ n0 0 (by omega)
  refine k_return eX9_become_40 rfl ?_
  exact ⟨rfl, rfl⟩
set_option maxHeartbeats 400000 in
theorem pX9_push42 {S : k_S} {n : Nat} (hn : S.1 2103 = nI n) (hn2 : n < 120) (v : Int32) : Sp 1 0 0 MX9_push [.ref 42, .int (v)] (hp S) (Rt (none) (hp (si (sa S 44 (va_up (S.2.1 44) n v)) 2103 (nI (n + 1))))) := by
  refine Sp_of (by decide +kernel) (Nat.le_of_ble_eq_true rfl) ?_
  show AW none MX9_push 1 0 0 0 [.ref 42, .int (v)] [] (hp S) _
  refine k_aload_n eX9_push_0 rfl ?_
  refine GX9_19_42 eX9_push_1 rfl ?_
  refine k_aload_n eX9_push_4 rfl ?_
  refine GX9_34_42 eX9_push_5 rfl ?_
  refine k_topi (nI n) hn ?_
  refine k_iload_n eX9_push_8 rfl ?_
  refine cN0 (M' := MX11_write) eX9_push_9 mX9_30 wX11_write sX11_write rfl (pX11_writeN (j := n) (v := v) (ar44 _) (by omega) (by decide) (as44 _ _)) (by decide) (Nat.le_of_ble_eq_true rfl) ?_
  refine k_aload_n eX9_push_12 rfl ?_
  refine k_dup eX9_push_13 rfl ?_
  refine GX9_34_42 eX9_push_14 rfl ?_
  refine k_topi (nI n) hn ?_
  refine k_iconst (v := nI 1) eX9_push_17 (by decide) ?_
  refine k_iaddN eX9_push_18 ?_
  refine PX9_34_42 eX9_push_19 rfl ?_
  refine k_return eX9_push_22 rfl ?_
  exact ⟨rfl, rfl⟩
set_option maxHeartbeats 400000 in
theorem pX9_pop42 {S : k_S} {n : Nat} (hn : S.1 2103 = nI (n + 1)) (hn2 : n < 120) : Sp 1 0 0 MX9_pop [.ref 42] (hp S) (Rt (some (.int (S.2.1 44 n))) (hp (si S 2103 (nI n)))) := by
  refine Sp_of (by decide +kernel) (Nat.le_of_ble_eq_true rfl) ?_
  show AW none MX9_pop 1 0 0 0 [.ref 42] [] (hp S) _
  refine k_aload_n eX9_pop_0 rfl ?_
  refine k_dup eX9_pop_1 rfl ?_
  refine GX9_34_42 eX9_pop_2 rfl ?_
  refine k_topi (nI (n + 1)) hn ?_
  refine k_iconst (v := nI 1) eX9_pop_5 (by decide) ?_
  refine k_isubN eX9_pop_6 (by omega) ?_
  refine PX9_34_42 eX9_pop_7 rfl ?_
  refine k_aload_n eX9_pop_10 rfl ?_
  refine GX9_19_42 eX9_pop_11 rfl ?_
  refine k_aload_n eX9_pop_14 rfl ?_
  refine GX9_34_42 eX9_pop_15 rfl ?_
  refine k_topi (nI n) rfl ?_
  refine cN1 (M' := MX11_read) eX9_pop_18 mX9_26 wX11_read sX11_read rfl (pX11_readN (j := n) (ar44 _) (by omega) (by decide)) (by decide) (Nat.le_of_ble_eq_true rfl) ?_
  refine k_ireturn eX9_pop_21 rfl rfl ?_
  exact ⟨rfl, rfl⟩
def bcS45 (S : k_S) : Nat → k_S
  | 0 => si S 2251 (S.1 51)
  | n + 1 => sa (bcS45 S n) 46 (va_up ((bcS45 S n).2.1 46) n (S.2.1 2 n))
theorem bcS45_1 (S : k_S) : ∀ n, (bcS45 S n).1 = (si S 2251 (S.1 51)).1
  | 0 => rfl
  | n + 1 => bcS45_1 S n
theorem bcS45_3 (S : k_S) : ∀ n, (bcS45 S n).2.2 = S.2.2
  | 0 => rfl
  | n + 1 => bcS45_3 S n
theorem bcS45_2 (S : k_S) {k : Nat} (h : k ≠ 46) : ∀ n, (bcS45 S n).2.1 k = S.2.1 k
  | 0 => rfl
  | n + 1 => by rw [bcS45]; simp only [sa, va_up, if_neg h]; exact bcS45_2 S h n
theorem bcS45_c (S : k_S) : ∀ n, (bcS45 S n).2.1 46 = fillN (S.2.1 2) (S.2.1 46) n
  | 0 => rfl
  | n + 1 => by rw [fillN, ← bcS45_c S n]; rfl
set_option maxHeartbeats 400000 in
theorem lX9_become45 {d : Nat} {Po : Option Value → k_H → Prop} (hdd : 1 ≤ d) {S : k_S} {n0 : Nat} (hn : S.1 51 = nI n0) (hn0 : n0 ≤ 240) (kx : AW none MX9_become d 0 0 40 [.ref 45, .ref 1, .int (nI n0)] [] (hp (bcS45 S n0)) Po) : ∀ (n j : Nat), j + n = n0 → AW none MX9_become d 0 0 10 [.ref 45, .ref 1, .int (nI j)] [] (hp (bcS45 S j)) Po := by
  intro n
  induction n with
  | zero =>
    intro j hj
    rw [show j = n0 by omega]
    refine k_iload_n eX9_become_10 rfl ?_
    refine k_aload_n eX9_become_11 rfl ?_
    refine GX9_15_45 eX9_become_12 rfl ?_
    refine k_topi (nI n0) ((congrFun (bcS45_1 S n0) 2251).trans hn) ?_
    refine k_icmp_geN 40 eX9_become_15 (by decide) (by omega) (by omega) (fun c_15 => ?_) (fun c_15 => by exfalso; omega)
    exact kx
  | succ n ih =>
    intro j hj
    obtain ⟨T, hT⟩ : ∃ T, bcS45 S j = T := ⟨_, rfl⟩
    have hTn : T.1 2251 = nI n0 := by rw [← hT]; exact (congrFun (bcS45_1 S j) 2251).trans hn
    have hT2 : T.2.1 2 = S.2.1 2 := by rw [← hT]; exact bcS45_2 S (by decide) j
    rw [hT]
    refine k_iload_n eX9_become_10 rfl ?_
    refine k_aload_n eX9_become_11 rfl ?_
    refine GX9_15_45 eX9_become_12 rfl ?_
    refine k_topi (nI n0) hTn ?_
    refine k_icmp_geN 40 eX9_become_15 (by decide) (by omega) (by omega) (fun c_15 => by exfalso; omega) (fun c_15 => ?_)
    refine k_aload_n eX9_become_18 rfl ?_
    refine GX9_9_45 eX9_become_19 rfl ?_
    refine k_iload_n eX9_become_22 rfl ?_
    refine k_aload_n eX9_become_23 rfl ?_
    refine GX9_25 eX9_become_24 rfl ?_
    refine k_iload_n eX9_become_27 rfl ?_
    refine cN1 (M' := MX11_read) eX9_become_28 mX9_26 wX11_read sX11_read rfl (pX11_readN (j := j) (ar2 _) (by omega) (by decide)) (by omega) (Nat.le_of_ble_eq_true rfl) ?_
    refine k_topi ((S.2.1 2 j)) (congrFun hT2 j) ?_
    refine cN0 (M' := MX11_write) eX9_become_31 mX9_30 wX11_write sX11_write rfl (pX11_writeN (j := j) (v := (S.2.1 2 j)) (ar46 _) (by omega) (by decide) (as46 _ _)) (by omega) (Nat.le_of_ble_eq_true rfl) ?_
    refine k_iincN (g := 1) (a := j) (L2 := [_, _, _]) eX9_become_34 (Nat.le_of_ble_eq_true rfl) rfl rfl ?_
    refine k_goto 10 eX9_become_37 (by decide) ?_
    have q := ih (j + 1) (by omega)
    rw [bcS45, hT] at q
    exact q
set_option maxHeartbeats 400000 in
theorem pX9_become45 {S : k_S} {n0 : Nat} (hn : S.1 51 = nI n0) (hn0 : n0 ≤ 240) : Sp 1 0 0 MX9_become [.ref 45, .ref 1] (hp S) (Rt (none) (hp (bcS45 S n0))) := by
  refine Sp_of (by decide +kernel) (Nat.le_of_ble_eq_true rfl) ?_
  show AW none MX9_become 1 0 0 0 [.ref 45, .ref 1, .null] [] (hp S) _
  refine k_aload_n eX9_become_0 rfl ?_
  refine k_aload_n eX9_become_1 rfl ?_
  refine GX9_22 eX9_become_2 rfl ?_
  refine PX9_15_45 eX9_become_5 rfl ?_
  refine k_iconst (v := nI 0) eX9_become_8 (by decide) ?_
  refine k_istore_n (L2 := [_, _, _]) eX9_become_9 (Nat.le_of_ble_eq_true rfl) rfl ?_
  refine lX9_become45 (by decide) (S := S) hn hn0 ?_ n0 0 (by omega)
  refine k_return eX9_become_40 rfl ?_
  exact ⟨rfl, rfl⟩
set_option maxHeartbeats 400000 in
theorem pX9_push45 {S : k_S} {n : Nat} (hn : S.1 2253 = nI n) (hn2 : n < 120) (v : Int32) : Sp 1 0 0 MX9_push [.ref 45, .int (v)] (hp S) (Rt (none) (hp (si (sa S 47 (va_up (S.2.1 47) n v)) 2253 (nI (n + 1))))) := by
  refine Sp_of (by decide +kernel) (Nat.le_of_ble_eq_true rfl) ?_
  show AW none MX9_push 1 0 0 0 [.ref 45, .int (v)] [] (hp S) _
  refine k_aload_n eX9_push_0 rfl ?_
  refine GX9_19_45 eX9_push_1 rfl ?_
  refine k_aload_n eX9_push_4 rfl ?_
  refine GX9_34_45 eX9_push_5 rfl ?_
  refine k_topi (nI n) hn ?_
  refine k_iload_n eX9_push_8 rfl ?_
  refine cN0 (M' := MX11_write) eX9_push_9 mX9_30 wX11_write sX11_write rfl (pX11_writeN (j := n) (v := v) (ar47 _) (by omega) (by decide) (as47 _ _)) (by decide) (Nat.le_of_ble_eq_true rfl) ?_
  refine k_aload_n eX9_push_12 rfl ?_
  refine k_dup eX9_push_13 rfl ?_
  refine GX9_34_45 eX9_push_14 rfl ?_
  refine k_topi (nI n) hn ?_
  refine k_iconst (v := nI 1) eX9_push_17 (by decide) ?_
  refine k_iaddN eX9_push_18 ?_
  refine PX9_34_45 eX9_push_19 rfl ?_
  refine k_return eX9_push_22 rfl ?_
  exact ⟨rfl, rfl⟩
set_option maxHeartbeats 400000 in
theorem pX9_pop45 {S : k_S} {n : Nat} (hn : S.1 2253 = nI (n + 1)) (hn2 : n < 120) : Sp 1 0 0 MX9_pop [.ref 45] (hp S) (Rt (some (.int (S.2.1 47 n))) (hp (si S 2253 (nI n)))) := by
  refine Sp_of (by decide +kernel) (Nat.le_of_ble_eq_true rfl) ?_
  show AW none MX9_pop 1 0 0 0 [.ref 45] [] (hp S) _
  refine k_aload_n eX9_pop_0 rfl ?_
  refine k_dup eX9_pop_1 rfl ?_
  refine GX9_34_45 eX9_pop_2 rfl ?_
  refine k_topi (nI (n + 1)) hn ?_
  refine k_iconst (v := nI 1) eX9_pop_5 (by decide) ?_
  refine k_isubN eX9_pop_6 (by omega) ?_
  refine PX9_34_45 eX9_pop_7 rfl ?_
  refine k_aload_n eX9_pop_10 rfl ?_
  refine GX9_19_45 eX9_pop_11 rfl ?_
  refine k_aload_n eX9_pop_14 rfl ?_
  refine GX9_34_45 eX9_pop_15 rfl ?_
  refine k_topi (nI n) rfl ?_
  refine cN1 (M' := MX11_read) eX9_pop_18 mX9_26 wX11_read sX11_read rfl (pX11_readN (j := n) (ar47 _) (by omega) (by decide)) (by decide) (Nat.le_of_ble_eq_true rfl) ?_
  refine k_ireturn eX9_pop_21 rfl rfl ?_
  exact ⟨rfl, rfl⟩
