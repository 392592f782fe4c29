/-- a stack in a row: its latest is the list's first -/
def stk (f : Nat → Int32) : List Int32 → Prop
  | [] => True
  | v :: r => f r.length = v ∧ stk f r
theorem stk_up {f : Nat → Int32} {n : Nat} {v : Int32} : ∀ {l : List Int32}, l.length ≤ n → stk f l → stk (va_up f n v) l
  | [], _, _ => trivial
  | x :: r, h, ⟨h1, h2⟩ => ⟨by rw [va_up, if_neg (by simp at h; omega)]; exact h1, stk_up (by simp at h; omega) h2⟩
theorem stk_push {f : Nat → Int32} {v : Int32} {l : List Int32} (h : stk f l) : stk (va_up f l.length v) (v :: l) := ⟨va_up_at _ _ _, stk_up (Nat.le_refl _) h⟩
def hdI : List Int32 → Int32
  | [] => nI 0
  | s :: _ => s
def lev (v : Int32) : Nat := if v = nI 124 then 1 else if v = nI 38 then 2 else if v = nI 60 ∨ v = nI 61 ∨ v = nI 62 then 3 else if v = nI 43 ∨ v = nI 45 then 4 else if v = nI 42 ∨ v = nI 47 ∨ v = nI 37 then 5 else if v = nI 33 ∨ v = nI 126 then 6 else 0
/-- how many of ( ! - ahead of an O are open -/
def oc : List Int32 → Nat
  | [] => 0
  | s :: r => oc r + if lev s = 6 ∨ s = nI 40 then 1 else 0
theorem oc_le : ∀ W, oc W ≤ W.length
  | [] => Nat.le_refl 0
  | s :: r => by have := oc_le r; rw [oc]; simp only [List.length_cons]; split <;> omega
/-- what waits from level k on comes to the code -/
def ew (k : Nat) (c : List Int32) : List Int32 → List Int32 × List Int32
  | [] => (c, [])
  | s :: W => if k ≤ lev s then ew k ((-s) :: c) W else (c, s :: W)
theorem ew_len (k : Nat) : ∀ (W c : List Int32), (ew k c W).1.length + (ew k c W).2.length = c.length + W.length
  | [], c => rfl
  | s :: W, c => by
    rw [ew]
    split
    · rw [ew_len k W]; simp only [List.length_cons]; omega
    · rfl
theorem ew_w (k : Nat) : ∀ (W c : List Int32), (ew k c W).2.length ≤ W.length
  | [], c => Nat.le_refl _
  | s :: W, c => by
    rw [ew]
    split
    · exact Nat.le_succ_of_le (ew_w k W _)
    · exact Nat.le_refl _
def nam (v : Int32) : Int32 := if v = nI 116 then nI 0 else if v = nI 115 then nI 1 else if v = nI 119 then nI 2 else if v = nI 106 then nI 3 else if v = nI 100 then nI 4 else if v = nI 108 then nI 5 else if v = nI 103 then nI 6 else -1
/-- the reader's own cells: code, waiting, digits, whether a part is wanted, whether it was asked -/
def RS (S : k_S) (c W : List Int32) (dg : Nat) (wa as : Bool) : Prop := S.1 51 = nI c.length ∧ stk (S.2.1 2) c ∧ S.1 53 = nI W.length ∧ stk (S.2.1 3) W ∧ S.1 54 = nI (oc W) ∧ S.1 55 = nI dg ∧ S.1 56 = b2i (wa = true) ∧ S.1 57 = b2i (as = true)
/-- nothing but the reader's cells has changed -/
def FrR (S T : k_S) : Prop := (∀ k, ¬ (51 ≤ k ∧ k ≤ 57) → T.1 k = S.1 k) ∧ (∀ a, a ≠ 2 → a ≠ 3 → T.2.1 a = S.2.1 a) ∧ T.2.2 = S.2.2
theorem FrR.rf (S : k_S) : FrR S S := ⟨fun _ _ => rfl, fun _ _ _ => rfl, rfl⟩
theorem FrR.tr {S T U : k_S} (h : FrR S T) (h2 : FrR T U) : FrR S U := ⟨fun k hk => (h2.1 k hk).trans (h.1 k hk), fun a h3 h4 => (h2.2.1 a h3 h4).trans (h.2.1 a h3 h4), h2.2.2.trans h.2.2⟩
theorem FrR.si {S T : k_S} (h : FrR S T) {k : Nat} (hk : 51 ≤ k ∧ k ≤ 57) (v : Int32) : FrR S (si T k v) := ⟨fun j hj => by show va_up T.1 k v j = _; rw [va_up, if_neg (fun q : j = k => hj (by rw [q]; exact hk))]; exact h.1 j hj, h.2.1, h.2.2⟩
theorem FrR.sa {S T : k_S} (h : FrR S T) {a : Nat} (ha : a = 2 ∨ a = 3) (f : Nat → Int32) : FrR S (sa T a f) := ⟨h.1, fun j h2 h3 => by show va_up T.2.1 a f j = _; rw [va_up, if_neg (by rcases ha with rfl | rfl <;> assumption)]; exact h.2.1 j h2 h3, h.2.2⟩
set_option maxHeartbeats 400000 in
theorem pX6_levelOf33 {h : k_H} : Sp 0 0 0 MX6_levelOf [.int (nI 33)] h (Rt (some (.int (nI 6))) (h)) := by
  refine Sp_of (by decide +kernel) (Nat.le_of_ble_eq_true rfl) ?_
  show AW none MX6_levelOf 0 0 0 0 [.int (nI 33)] [] h _
  refine k_iload_n eX6_levelOf_0 rfl ?_
  refine k_look 118 eX6_levelOf_1 (by decide) (off := 117) (by decide) (by decide) ?_
  refine k_bipush (v := nI 6) eX6_levelOf_118 (by decide) ?_
  refine k_ireturn eX6_levelOf_120 rfl rfl ?_
  exact ⟨rfl, rfl⟩
set_option maxHeartbeats 400000 in
theorem pX6_levelOf37 {h : k_H} : Sp 0 0 0 MX6_levelOf [.int (nI 37)] h (Rt (some (.int (nI 5))) (h)) := by
  refine Sp_of (by decide +kernel) (Nat.le_of_ble_eq_true rfl) ?_
  show AW none MX6_levelOf 0 0 0 0 [.int (nI 37)] [] h _
  refine k_iload_n eX6_levelOf_0 rfl ?_
  refine k_look 116 eX6_levelOf_1 (by decide) (off := 115) (by decide) (by decide) ?_
  refine k_iconst (v := nI 5) eX6_levelOf_116 (by decide) ?_
  refine k_ireturn eX6_levelOf_117 rfl rfl ?_
  exact ⟨rfl, rfl⟩
set_option maxHeartbeats 400000 in
theorem pX6_levelOf38 {h : k_H} : Sp 0 0 0 MX6_levelOf [.int (nI 38)] h (Rt (some (.int (nI 2))) (h)) := by
  refine Sp_of (by decide +kernel) (Nat.le_of_ble_eq_true rfl) ?_
  show AW none MX6_levelOf 0 0 0 0 [.int (nI 38)] [] h _
  refine k_iload_n eX6_levelOf_0 rfl ?_
  refine k_look 110 eX6_levelOf_1 (by decide) (off := 109) (by decide) (by decide) ?_
  refine k_iconst (v := nI 2) eX6_levelOf_110 (by decide) ?_
  refine k_ireturn eX6_levelOf_111 rfl rfl ?_
  exact ⟨rfl, rfl⟩
set_option maxHeartbeats 400000 in
theorem pX6_levelOf42 {h : k_H} : Sp 0 0 0 MX6_levelOf [.int (nI 42)] h (Rt (some (.int (nI 5))) (h)) := by
  refine Sp_of (by decide +kernel) (Nat.le_of_ble_eq_true rfl) ?_
  show AW none MX6_levelOf 0 0 0 0 [.int (nI 42)] [] h _
  refine k_iload_n eX6_levelOf_0 rfl ?_
  refine k_look 116 eX6_levelOf_1 (by decide) (off := 115) (by decide) (by decide) ?_
  refine k_iconst (v := nI 5) eX6_levelOf_116 (by decide) ?_
  refine k_ireturn eX6_levelOf_117 rfl rfl ?_
  exact ⟨rfl, rfl⟩
set_option maxHeartbeats 400000 in
theorem pX6_levelOf43 {h : k_H} : Sp 0 0 0 MX6_levelOf [.int (nI 43)] h (Rt (some (.int (nI 4))) (h)) := by
  refine Sp_of (by decide +kernel) (Nat.le_of_ble_eq_true rfl) ?_
  show AW none MX6_levelOf 0 0 0 0 [.int (nI 43)] [] h _
  refine k_iload_n eX6_levelOf_0 rfl ?_
  refine k_look 114 eX6_levelOf_1 (by decide) (off := 113) (by decide) (by decide) ?_
  refine k_iconst (v := nI 4) eX6_levelOf_114 (by decide) ?_
  refine k_ireturn eX6_levelOf_115 rfl rfl ?_
  exact ⟨rfl, rfl⟩
set_option maxHeartbeats 400000 in
theorem pX6_levelOf45 {h : k_H} : Sp 0 0 0 MX6_levelOf [.int (nI 45)] h (Rt (some (.int (nI 4))) (h)) := by
  refine Sp_of (by decide +kernel) (Nat.le_of_ble_eq_true rfl) ?_
  show AW none MX6_levelOf 0 0 0 0 [.int (nI 45)] [] h _
  refine k_iload_n eX6_levelOf_0 rfl ?_
  refine k_look 114 eX6_levelOf_1 (by decide) (off := 113) (by decide) (by decide) ?_
  refine k_iconst (v := nI 4) eX6_levelOf_114 (by decide) ?_
  refine k_ireturn eX6_levelOf_115 rfl rfl ?_
  exact ⟨rfl, rfl⟩
set_option maxHeartbeats 400000 in
theorem pX6_levelOf47 {h : k_H} : Sp 0 0 0 MX6_levelOf [.int (nI 47)] h (Rt (some (.int (nI 5))) (h)) := by
  refine Sp_of (by decide +kernel) (Nat.le_of_ble_eq_true rfl) ?_
  show AW none MX6_levelOf 0 0 0 0 [.int (nI 47)] [] h _
  refine k_iload_n eX6_levelOf_0 rfl ?_
  refine k_look 116 eX6_levelOf_1 (by decide) (off := 115) (by decide) (by decide) ?_
  refine k_iconst (v := nI 5) eX6_levelOf_116 (by decide) ?_
  refine k_ireturn eX6_levelOf_117 rfl rfl ?_
  exact ⟨rfl, rfl⟩
set_option maxHeartbeats 400000 in
theorem pX6_levelOf60 {h : k_H} : Sp 0 0 0 MX6_levelOf [.int (nI 60)] h (Rt (some (.int (nI 3))) (h)) := by
  refine Sp_of (by decide +kernel) (Nat.le_of_ble_eq_true rfl) ?_
  show AW none MX6_levelOf 0 0 0 0 [.int (nI 60)] [] h _
  refine k_iload_n eX6_levelOf_0 rfl ?_
  refine k_look 112 eX6_levelOf_1 (by decide) (off := 111) (by decide) (by decide) ?_
  refine k_iconst (v := nI 3) eX6_levelOf_112 (by decide) ?_
  refine k_ireturn eX6_levelOf_113 rfl rfl ?_
  exact ⟨rfl, rfl⟩
set_option maxHeartbeats 400000 in
theorem pX6_levelOf61 {h : k_H} : Sp 0 0 0 MX6_levelOf [.int (nI 61)] h (Rt (some (.int (nI 3))) (h)) := by
  refine Sp_of (by decide +kernel) (Nat.le_of_ble_eq_true rfl) ?_
  show AW none MX6_levelOf 0 0 0 0 [.int (nI 61)] [] h _
  refine k_iload_n eX6_levelOf_0 rfl ?_
  refine k_look 112 eX6_levelOf_1 (by decide) (off := 111) (by decide) (by decide) ?_
  refine k_iconst (v := nI 3) eX6_levelOf_112 (by decide) ?_
  refine k_ireturn eX6_levelOf_113 rfl rfl ?_
  exact ⟨rfl, rfl⟩
set_option maxHeartbeats 400000 in
theorem pX6_levelOf62 {h : k_H} : Sp 0 0 0 MX6_levelOf [.int (nI 62)] h (Rt (some (.int (nI 3))) (h)) := by
  refine Sp_of (by decide +kernel) (Nat.le_of_ble_eq_true rfl) ?_
  show AW none MX6_levelOf 0 0 0 0 [.int (nI 62)] [] h _
  refine k_iload_n eX6_levelOf_0 rfl ?_
  refine k_look 112 eX6_levelOf_1 (by decide) (off := 111) (by decide) (by decide) ?_
  refine k_iconst (v := nI 3) eX6_levelOf_112 (by decide) ?_
  refine k_ireturn eX6_levelOf_113 rfl rfl ?_
  exact ⟨rfl, rfl⟩
set_option maxHeartbeats 400000 in
theorem pX6_levelOf124 {h : k_H} : Sp 0 0 0 MX6_levelOf [.int (nI 124)] h (Rt (some (.int (nI 1))) (h)) := by
  refine Sp_of (by decide +kernel) (Nat.le_of_ble_eq_true rfl) ?_
  show AW none MX6_levelOf 0 0 0 0 [.int (nI 124)] [] h _
  refine k_iload_n eX6_levelOf_0 rfl ?_
  refine k_look 108 eX6_levelOf_1 (by decide) (off := 107) (by decide) (by decide) ?_
  refine k_iconst (v := nI 1) eX6_levelOf_108 (by decide) ?_
  refine k_ireturn eX6_levelOf_109 rfl rfl ?_
  exact ⟨rfl, rfl⟩
set_option maxHeartbeats 400000 in
theorem pX6_levelOf126 {h : k_H} : Sp 0 0 0 MX6_levelOf [.int (nI 126)] h (Rt (some (.int (nI 6))) (h)) := by
  refine Sp_of (by decide +kernel) (Nat.le_of_ble_eq_true rfl) ?_
  show AW none MX6_levelOf 0 0 0 0 [.int (nI 126)] [] h _
  refine k_iload_n eX6_levelOf_0 rfl ?_
  refine k_look 118 eX6_levelOf_1 (by decide) (off := 117) (by decide) (by decide) ?_
  refine k_bipush (v := nI 6) eX6_levelOf_118 (by decide) ?_
  refine k_ireturn eX6_levelOf_120 rfl rfl ?_
  exact ⟨rfl, rfl⟩
set_option maxHeartbeats 400000 in
theorem pX6_levelOfN {h : k_H} (v : Int32) (h33 : ¬ v = nI 33) (h37 : ¬ v = nI 37) (h38 : ¬ v = nI 38) (h42 : ¬ v = nI 42) (h43 : ¬ v = nI 43) (h45 : ¬ v = nI 45) (h47 : ¬ v = nI 47) (h60 : ¬ v = nI 60) (h61 : ¬ v = nI 61) (h62 : ¬ v = nI 62) (h124 : ¬ v = nI 124) (h126 : ¬ v = nI 126) : Sp 0 0 0 MX6_levelOf [.int (v)] h (Rt (some (.int (nI 0))) (h)) := by
  refine Sp_of (by decide +kernel) (Nat.le_of_ble_eq_true rfl) ?_
  show AW none MX6_levelOf 0 0 0 0 [.int (v)] [] h _
  refine k_iload_n eX6_levelOf_0 rfl ?_
  refine k_look 121 eX6_levelOf_1 (by decide) (off := 120) (by show Op.lookupswitch.offset [(33, 117), (37, 115), (38, 109), (42, 115), (43, 113), (45, 113), (47, 115), (60, 111), (61, 111), (62, 111), (124, 107), (126, 117)] 120 v.toInt = 120; rw [lv_osw (k := nI 33) h33 (by decide), lv_osw (k := nI 37) h37 (by decide), lv_osw (k := nI 38) h38 (by decide), lv_osw (k := nI 42) h42 (by decide), lv_osw (k := nI 43) h43 (by decide), lv_osw (k := nI 45) h45 (by decide), lv_osw (k := nI 47) h47 (by decide), lv_osw (k := nI 60) h60 (by decide), lv_osw (k := nI 61) h61 (by decide), lv_osw (k := nI 62) h62 (by decide), lv_osw (k := nI 124) h124 (by decide), lv_osw (k := nI 126) h126 (by decide)]; rfl) (by decide) ?_
  refine k_iconst (v := nI 0) eX6_levelOf_121 (by decide) ?_
  refine k_ireturn eX6_levelOf_122 rfl rfl ?_
  exact ⟨rfl, rfl⟩
theorem pX6_levelOf {h : k_H} (v : Int32) : Sp 0 0 0 MX6_levelOf [.int v] h (Rt (some (.int (nI (lev v)))) h) := by
  by_cases h33 : v = nI 33
  · subst h33; exact pX6_levelOf33
  by_cases h37 : v = nI 37
  · subst h37; exact pX6_levelOf37
  by_cases h38 : v = nI 38
  · subst h38; exact pX6_levelOf38
  by_cases h42 : v = nI 42
  · subst h42; exact pX6_levelOf42
  by_cases h43 : v = nI 43
  · subst h43; exact pX6_levelOf43
  by_cases h45 : v = nI 45
  · subst h45; exact pX6_levelOf45
  by_cases h47 : v = nI 47
  · subst h47; exact pX6_levelOf47
  by_cases h60 : v = nI 60
  · subst h60; exact pX6_levelOf60
  by_cases h61 : v = nI 61
  · subst h61; exact pX6_levelOf61
  by_cases h62 : v = nI 62
  · subst h62; exact pX6_levelOf62
  by_cases h124 : v = nI 124
  · subst h124; exact pX6_levelOf124
  by_cases h126 : v = nI 126
  · subst h126; exact pX6_levelOf126
  have e : lev v = 0 := by unfold lev; simp only [h33, h37, h38, h42, h43, h45, h47, h60, h61, h62, h124, h126, if_false, or_self]
  rw [e]
  exact pX6_levelOfN v h33 h37 h38 h42 h43 h45 h47 h60 h61 h62 h124 h126
set_option maxHeartbeats 400000 in
theorem pX9_nameOf100 {h : k_H} : Sp 0 0 0 MX9_nameOf [.int (nI 100)] h (Rt (some (.int (nI 4))) (h)) := by
  refine Sp_of (by decide +kernel) (Nat.le_of_ble_eq_true rfl) ?_
  show AW none MX9_nameOf 0 0 0 0 [.int (nI 100)] [] h _
  refine k_iload_n eX9_nameOf_0 rfl ?_
  refine k_tabIn 104 (off := 103) eX9_nameOf_1 (by decide) (by decide) (by decide) (by decide) ?_
  refine k_iconst (v := nI 4) eX9_nameOf_104 (by decide) ?_
  refine k_ireturn eX9_nameOf_105 rfl rfl ?_
  exact ⟨rfl, rfl⟩
set_option maxHeartbeats 400000 in
theorem pX9_nameOf101 {h : k_H} : Sp 0 0 0 MX9_nameOf [.int (nI 101)] h (Rt (some (.int (-1))) (h)) := by
  refine Sp_of (by decide +kernel) (Nat.le_of_ble_eq_true rfl) ?_
  show AW none MX9_nameOf 0 0 0 0 [.int (nI 101)] [] h _
  refine k_iload_n eX9_nameOf_0 rfl ?_
  refine k_tabIn 111 (off := 110) eX9_nameOf_1 (by decide) (by decide) (by decide) (by decide) ?_
  refine k_iconst (v := (-1)) eX9_nameOf_111 (by decide) ?_
  refine k_ireturn eX9_nameOf_112 rfl rfl ?_
  exact ⟨rfl, rfl⟩
set_option maxHeartbeats 400000 in
theorem pX9_nameOf102 {h : k_H} : Sp 0 0 0 MX9_nameOf [.int (nI 102)] h (Rt (some (.int (-1))) (h)) := by
  refine Sp_of (by decide +kernel) (Nat.le_of_ble_eq_true rfl) ?_
  show AW none MX9_nameOf 0 0 0 0 [.int (nI 102)] [] h _
  refine k_iload_n eX9_nameOf_0 rfl ?_
  refine k_tabIn 111 (off := 110) eX9_nameOf_1 (by decide) (by decide) (by decide) (by decide) ?_
  refine k_iconst (v := (-1)) eX9_nameOf_111 (by decide) ?_
  refine k_ireturn eX9_nameOf_112 rfl rfl ?_
  exact ⟨rfl, rfl⟩
set_option maxHeartbeats 400000 in
theorem pX9_nameOf103 {h : k_H} : Sp 0 0 0 MX9_nameOf [.int (nI 103)] h (Rt (some (.int (nI 6))) (h)) := by
  refine Sp_of (by decide +kernel) (Nat.le_of_ble_eq_true rfl) ?_
  show AW none MX9_nameOf 0 0 0 0 [.int (nI 103)] [] h _
  refine k_iload_n eX9_nameOf_0 rfl ?_
  refine k_tabIn 108 (off := 107) eX9_nameOf_1 (by decide) (by decide) (by decide) (by decide) ?_
  refine k_bipush (v := nI 6) eX9_nameOf_108 (by decide) ?_
  refine k_ireturn eX9_nameOf_110 rfl rfl ?_
  exact ⟨rfl, rfl⟩
set_option maxHeartbeats 400000 in
theorem pX9_nameOf104 {h : k_H} : Sp 0 0 0 MX9_nameOf [.int (nI 104)] h (Rt (some (.int (-1))) (h)) := by
  refine Sp_of (by decide +kernel) (Nat.le_of_ble_eq_true rfl) ?_
  show AW none MX9_nameOf 0 0 0 0 [.int (nI 104)] [] h _
  refine k_iload_n eX9_nameOf_0 rfl ?_
  refine k_tabIn 111 (off := 110) eX9_nameOf_1 (by decide) (by decide) (by decide) (by decide) ?_
  refine k_iconst (v := (-1)) eX9_nameOf_111 (by decide) ?_
  refine k_ireturn eX9_nameOf_112 rfl rfl ?_
  exact ⟨rfl, rfl⟩
set_option maxHeartbeats 400000 in
theorem pX9_nameOf105 {h : k_H} : Sp 0 0 0 MX9_nameOf [.int (nI 105)] h (Rt (some (.int (-1))) (h)) := by
  refine Sp_of (by decide +kernel) (Nat.le_of_ble_eq_true rfl) ?_
  show AW none MX9_nameOf 0 0 0 0 [.int (nI 105)] [] h _
  refine k_iload_n eX9_nameOf_0 rfl ?_
  refine k_tabIn 111 (off := 110) eX9_nameOf_1 (by decide) (by decide) (by decide) (by decide) ?_
  refine k_iconst (v := (-1)) eX9_nameOf_111 (by decide) ?_
  refine k_ireturn eX9_nameOf_112 rfl rfl ?_
  exact ⟨rfl, rfl⟩
set_option maxHeartbeats 400000 in
theorem pX9_nameOf106 {h : k_H} : Sp 0 0 0 MX9_nameOf [.int (nI 106)] h (Rt (some (.int (nI 3))) (h)) := by
  refine Sp_of (by decide +kernel) (Nat.le_of_ble_eq_true rfl) ?_
  show AW none MX9_nameOf 0 0 0 0 [.int (nI 106)] [] h _
  refine k_iload_n eX9_nameOf_0 rfl ?_
  refine k_tabIn 102 (off := 101) eX9_nameOf_1 (by decide) (by decide) (by decide) (by decide) ?_
  refine k_iconst (v := nI 3) eX9_nameOf_102 (by decide) ?_
  refine k_ireturn eX9_nameOf_103 rfl rfl ?_
  exact ⟨rfl, rfl⟩
set_option maxHeartbeats 400000 in
theorem pX9_nameOf107 {h : k_H} : Sp 0 0 0 MX9_nameOf [.int (nI 107)] h (Rt (some (.int (-1))) (h)) := by
  refine Sp_of (by decide +kernel) (Nat.le_of_ble_eq_true rfl) ?_
  show AW none MX9_nameOf 0 0 0 0 [.int (nI 107)] [] h _
  refine k_iload_n eX9_nameOf_0 rfl ?_
  refine k_tabIn 111 (off := 110) eX9_nameOf_1 (by decide) (by decide) (by decide) (by decide) ?_
  refine k_iconst (v := (-1)) eX9_nameOf_111 (by decide) ?_
  refine k_ireturn eX9_nameOf_112 rfl rfl ?_
  exact ⟨rfl, rfl⟩
set_option maxHeartbeats 400000 in
theorem pX9_nameOf108 {h : k_H} : Sp 0 0 0 MX9_nameOf [.int (nI 108)] h (Rt (some (.int (nI 5))) (h)) := by
  refine Sp_of (by decide +kernel) (Nat.le_of_ble_eq_true rfl) ?_
  show AW none MX9_nameOf 0 0 0 0 [.int (nI 108)] [] h _
  refine k_iload_n eX9_nameOf_0 rfl ?_
  refine k_tabIn 106 (off := 105) eX9_nameOf_1 (by decide) (by decide) (by decide) (by decide) ?_
  refine k_iconst (v := nI 5) eX9_nameOf_106 (by decide) ?_
  refine k_ireturn eX9_nameOf_107 rfl rfl ?_
  exact ⟨rfl, rfl⟩
set_option maxHeartbeats 400000 in
theorem pX9_nameOf109 {h : k_H} : Sp 0 0 0 MX9_nameOf [.int (nI 109)] h (Rt (some (.int (-1))) (h)) := by
  refine Sp_of (by decide +kernel) (Nat.le_of_ble_eq_true rfl) ?_
  show AW none MX9_nameOf 0 0 0 0 [.int (nI 109)] [] h _
  refine k_iload_n eX9_nameOf_0 rfl ?_
  refine k_tabIn 111 (off := 110) eX9_nameOf_1 (by decide) (by decide) (by decide) (by decide) ?_
  refine k_iconst (v := (-1)) eX9_nameOf_111 (by decide) ?_
  refine k_ireturn eX9_nameOf_112 rfl rfl ?_
  exact ⟨rfl, rfl⟩
set_option maxHeartbeats 400000 in
theorem pX9_nameOf110 {h : k_H} : Sp 0 0 0 MX9_nameOf [.int (nI 110)] h (Rt (some (.int (-1))) (h)) := by
  refine Sp_of (by decide +kernel) (Nat.le_of_ble_eq_true rfl) ?_
  show AW none MX9_nameOf 0 0 0 0 [.int (nI 110)] [] h _
  refine k_iload_n eX9_nameOf_0 rfl ?_
  refine k_tabIn 111 (off := 110) eX9_nameOf_1 (by decide) (by decide) (by decide) (by decide) ?_
  refine k_iconst (v := (-1)) eX9_nameOf_111 (by decide) ?_
  refine k_ireturn eX9_nameOf_112 rfl rfl ?_
  exact ⟨rfl, rfl⟩
set_option maxHeartbeats 400000 in
theorem pX9_nameOf111 {h : k_H} : Sp 0 0 0 MX9_nameOf [.int (nI 111)] h (Rt (some (.int (-1))) (h)) := by
  refine Sp_of (by decide +kernel) (Nat.le_of_ble_eq_true rfl) ?_
  show AW none MX9_nameOf 0 0 0 0 [.int (nI 111)] [] h _
  refine k_iload_n eX9_nameOf_0 rfl ?_
  refine k_tabIn 111 (off := 110) eX9_nameOf_1 (by decide) (by decide) (by decide) (by decide) ?_
  refine k_iconst (v := (-1)) eX9_nameOf_111 (by decide) ?_
  refine k_ireturn eX9_nameOf_112 rfl rfl ?_
  exact ⟨rfl, rfl⟩
set_option maxHeartbeats 400000 in
theorem pX9_nameOf112 {h : k_H} : Sp 0 0 0 MX9_nameOf [.int (nI 112)] h (Rt (some (.int (-1))) (h)) := by
  refine Sp_of (by decide +kernel) (Nat.le_of_ble_eq_true rfl) ?_
  show AW none MX9_nameOf 0 0 0 0 [.int (nI 112)] [] h _
  refine k_iload_n eX9_nameOf_0 rfl ?_
  refine k_tabIn 111 (off := 110) eX9_nameOf_1 (by decide) (by decide) (by decide) (by decide) ?_
  refine k_iconst (v := (-1)) eX9_nameOf_111 (by decide) ?_
  refine k_ireturn eX9_nameOf_112 rfl rfl ?_
  exact ⟨rfl, rfl⟩
set_option maxHeartbeats 400000 in
theorem pX9_nameOf113 {h : k_H} : Sp 0 0 0 MX9_nameOf [.int (nI 113)] h (Rt (some (.int (-1))) (h)) := by
  refine Sp_of (by decide +kernel) (Nat.le_of_ble_eq_true rfl) ?_
  show AW none MX9_nameOf 0 0 0 0 [.int (nI 113)] [] h _
  refine k_iload_n eX9_nameOf_0 rfl ?_
  refine k_tabIn 111 (off := 110) eX9_nameOf_1 (by decide) (by decide) (by decide) (by decide) ?_
  refine k_iconst (v := (-1)) eX9_nameOf_111 (by decide) ?_
  refine k_ireturn eX9_nameOf_112 rfl rfl ?_
  exact ⟨rfl, rfl⟩
set_option maxHeartbeats 400000 in
theorem pX9_nameOf114 {h : k_H} : Sp 0 0 0 MX9_nameOf [.int (nI 114)] h (Rt (some (.int (-1))) (h)) := by
  refine Sp_of (by decide +kernel) (Nat.le_of_ble_eq_true rfl) ?_
  show AW none MX9_nameOf 0 0 0 0 [.int (nI 114)] [] h _
  refine k_iload_n eX9_nameOf_0 rfl ?_
  refine k_tabIn 111 (off := 110) eX9_nameOf_1 (by decide) (by decide) (by decide) (by decide) ?_
  refine k_iconst (v := (-1)) eX9_nameOf_111 (by decide) ?_
  refine k_ireturn eX9_nameOf_112 rfl rfl ?_
  exact ⟨rfl, rfl⟩
set_option maxHeartbeats 400000 in
theorem pX9_nameOf115 {h : k_H} : Sp 0 0 0 MX9_nameOf [.int (nI 115)] h (Rt (some (.int (nI 1))) (h)) := by
  refine Sp_of (by decide +kernel) (Nat.le_of_ble_eq_true rfl) ?_
  show AW none MX9_nameOf 0 0 0 0 [.int (nI 115)] [] h _
  refine k_iload_n eX9_nameOf_0 rfl ?_
  refine k_tabIn 98 (off := 97) eX9_nameOf_1 (by decide) (by decide) (by decide) (by decide) ?_
  refine k_iconst (v := nI 1) eX9_nameOf_98 (by decide) ?_
  refine k_ireturn eX9_nameOf_99 rfl rfl ?_
  exact ⟨rfl, rfl⟩
set_option maxHeartbeats 400000 in
theorem pX9_nameOf116 {h : k_H} : Sp 0 0 0 MX9_nameOf [.int (nI 116)] h (Rt (some (.int (nI 0))) (h)) := by
  refine Sp_of (by decide +kernel) (Nat.le_of_ble_eq_true rfl) ?_
  show AW none MX9_nameOf 0 0 0 0 [.int (nI 116)] [] h _
  refine k_iload_n eX9_nameOf_0 rfl ?_
  refine k_tabIn 96 (off := 95) eX9_nameOf_1 (by decide) (by decide) (by decide) (by decide) ?_
  refine k_iconst (v := nI 0) eX9_nameOf_96 (by decide) ?_
  refine k_ireturn eX9_nameOf_97 rfl rfl ?_
  exact ⟨rfl, rfl⟩
set_option maxHeartbeats 400000 in
theorem pX9_nameOf117 {h : k_H} : Sp 0 0 0 MX9_nameOf [.int (nI 117)] h (Rt (some (.int (-1))) (h)) := by
  refine Sp_of (by decide +kernel) (Nat.le_of_ble_eq_true rfl) ?_
  show AW none MX9_nameOf 0 0 0 0 [.int (nI 117)] [] h _
  refine k_iload_n eX9_nameOf_0 rfl ?_
  refine k_tabIn 111 (off := 110) eX9_nameOf_1 (by decide) (by decide) (by decide) (by decide) ?_
  refine k_iconst (v := (-1)) eX9_nameOf_111 (by decide) ?_
  refine k_ireturn eX9_nameOf_112 rfl rfl ?_
  exact ⟨rfl, rfl⟩
set_option maxHeartbeats 400000 in
theorem pX9_nameOf118 {h : k_H} : Sp 0 0 0 MX9_nameOf [.int (nI 118)] h (Rt (some (.int (-1))) (h)) := by
  refine Sp_of (by decide +kernel) (Nat.le_of_ble_eq_true rfl) ?_
  show AW none MX9_nameOf 0 0 0 0 [.int (nI 118)] [] h _
  refine k_iload_n eX9_nameOf_0 rfl ?_
  refine k_tabIn 111 (off := 110) eX9_nameOf_1 (by decide) (by decide) (by decide) (by decide) ?_
  refine k_iconst (v := (-1)) eX9_nameOf_111 (by decide) ?_
  refine k_ireturn eX9_nameOf_112 rfl rfl ?_
  exact ⟨rfl, rfl⟩
set_option maxHeartbeats 400000 in
theorem pX9_nameOf119 {h : k_H} : Sp 0 0 0 MX9_nameOf [.int (nI 119)] h (Rt (some (.int (nI 2))) (h)) := by
  refine Sp_of (by decide +kernel) (Nat.le_of_ble_eq_true rfl) ?_
  show AW none MX9_nameOf 0 0 0 0 [.int (nI 119)] [] h _
  refine k_iload_n eX9_nameOf_0 rfl ?_
  refine k_tabIn 100 (off := 99) eX9_nameOf_1 (by decide) (by decide) (by decide) (by decide) ?_
  refine k_iconst (v := nI 2) eX9_nameOf_100 (by decide) ?_
  refine k_ireturn eX9_nameOf_101 rfl rfl ?_
  exact ⟨rfl, rfl⟩
set_option maxHeartbeats 400000 in
theorem pX9_nameOfN {h : k_H} (v : Int32) (hv : v.toInt < 100 ∨ 119 < v.toInt) : Sp 0 0 0 MX9_nameOf [.int (v)] h (Rt (some (.int (-1))) (h)) := by
  refine Sp_of (by decide +kernel) (Nat.le_of_ble_eq_true rfl) ?_
  show AW none MX9_nameOf 0 0 0 0 [.int (v)] [] h _
  refine k_iload_n eX9_nameOf_0 rfl ?_
  refine k_tabOut 111 eX9_nameOf_1 hv (by decide) ?_
  refine k_iconst (v := (-1)) eX9_nameOf_111 (by decide) ?_
  refine k_ireturn eX9_nameOf_112 rfl rfl ?_
  exact ⟨rfl, rfl⟩
theorem pX9_nameOf {h : k_H} (v : Int32) : Sp 0 0 0 MX9_nameOf [.int v] h (Rt (some (.int (nam v))) h) := by
  by_cases h100 : v = nI 100
  · subst h100; exact pX9_nameOf100
  by_cases h101 : v = nI 101
  · subst h101; exact pX9_nameOf101
  by_cases h102 : v = nI 102
  · subst h102; exact pX9_nameOf102
  by_cases h103 : v = nI 103
  · subst h103; exact pX9_nameOf103
  by_cases h104 : v = nI 104
  · subst h104; exact pX9_nameOf104
  by_cases h105 : v = nI 105
  · subst h105; exact pX9_nameOf105
  by_cases h106 : v = nI 106
  · subst h106; exact pX9_nameOf106
  by_cases h107 : v = nI 107
  · subst h107; exact pX9_nameOf107
  by_cases h108 : v = nI 108
  · subst h108; exact pX9_nameOf108
  by_cases h109 : v = nI 109
  · subst h109; exact pX9_nameOf109
  by_cases h110 : v = nI 110
  · subst h110; exact pX9_nameOf110
  by_cases h111 : v = nI 111
  · subst h111; exact pX9_nameOf111
  by_cases h112 : v = nI 112
  · subst h112; exact pX9_nameOf112
  by_cases h113 : v = nI 113
  · subst h113; exact pX9_nameOf113
  by_cases h114 : v = nI 114
  · subst h114; exact pX9_nameOf114
  by_cases h115 : v = nI 115
  · subst h115; exact pX9_nameOf115
  by_cases h116 : v = nI 116
  · subst h116; exact pX9_nameOf116
  by_cases h117 : v = nI 117
  · subst h117; exact pX9_nameOf117
  by_cases h118 : v = nI 118
  · subst h118; exact pX9_nameOf118
  by_cases h119 : v = nI 119
  · subst h119; exact pX9_nameOf119
  have e : nam v = -1 := by unfold nam; simp only [h116, h115, h119, h106, h100, h108, h103, if_false]
  rw [e]
  refine pX9_nameOfN v ?_
  rcases (by omega : v.toInt < 100 ∨ 119 < v.toInt ∨ (100 ≤ v.toInt ∧ v.toInt ≤ 119)) with q | q2 | q
  · exact Or.inl q
  · exact Or.inr q2
  exfalso
  have key : ∀ k : Nat, k < 200 → ¬ v = nI k → v.toInt ≠ (k : Int) := fun k hk hn hq => hn (Int32.toInt_inj.mp (by rw [hq, nI_toInt (by omega)]))
  have z100 := key 100 (by decide) h100
  have z101 := key 101 (by decide) h101
  have z102 := key 102 (by decide) h102
  have z103 := key 103 (by decide) h103
  have z104 := key 104 (by decide) h104
  have z105 := key 105 (by decide) h105
  have z106 := key 106 (by decide) h106
  have z107 := key 107 (by decide) h107
  have z108 := key 108 (by decide) h108
  have z109 := key 109 (by decide) h109
  have z110 := key 110 (by decide) h110
  have z111 := key 111 (by decide) h111
  have z112 := key 112 (by decide) h112
  have z113 := key 113 (by decide) h113
  have z114 := key 114 (by decide) h114
  have z115 := key 115 (by decide) h115
  have z116 := key 116 (by decide) h116
  have z117 := key 117 (by decide) h117
  have z118 := key 118 (by decide) h118
  have z119 := key 119 (by decide) h119
  omega
set_option maxHeartbeats 400000 in
theorem pX6_isDigit {h : k_H} (v : Int32) : Sp 0 0 0 MX6_isDigit [.int (v)] h (Rt (some (.int (b2i (pIn v (nI 48) (nI 57))))) (h)) := by
  refine Sp_of (by decide +kernel) (Nat.le_of_ble_eq_true rfl) ?_
  show AW none MX6_isDigit 0 0 0 0 [.int (v)] [] h _
  refine k_iload_n eX6_isDigit_0 rfl ?_
  refine k_bipush (v := nI 48) eX6_isDigit_1 (by decide) ?_
  refine k_icmp_lt 16 eX6_isDigit_3 (by decide) (fun c_3 => ?_) (fun c_3 => ?_)
  · refine k_iconst (v := nI 0) eX6_isDigit_16 (by decide) ?_
    refine k_ireturn eX6_isDigit_17 rfl rfl ?_
    exact ⟨rt_f (fun q => by first | exact absurd q.1 (Int32.not_le.mpr (by assumption)) | exact absurd q.2 (Int32.not_le.mpr (by assumption))), rfl⟩
  refine k_iload_n eX6_isDigit_6 rfl ?_
  refine k_bipush (v := nI 57) eX6_isDigit_7 (by decide) ?_
  refine k_icmp_gt 16 eX6_isDigit_9 (by decide) (fun c_9 => ?_) (fun c_9 => ?_)
  · refine k_iconst (v := nI 0) eX6_isDigit_16 (by decide) ?_
    refine k_ireturn eX6_isDigit_17 rfl rfl ?_
    exact ⟨rt_f (fun q => by first | exact absurd q.1 (Int32.not_le.mpr (by assumption)) | exact absurd q.2 (Int32.not_le.mpr (by assumption))), rfl⟩
  refine k_iconst (v := nI 1) eX6_isDigit_12 (by decide) ?_
  refine k_goto 17 eX6_isDigit_13 (by decide) ?_
  refine k_ireturn eX6_isDigit_17 rfl rfl ?_
  exact ⟨rt_t ⟨Int32.not_lt.mp c_3, Int32.not_lt.mp c_9⟩, rfl⟩
set_option maxHeartbeats 400000 in
theorem pX6_emit {S : k_S} {n : Nat} (hn : S.1 51 = nI n) (hn2 : n < 240) (v : Int32) : Sp 1 0 0 MX6_emit [.ref 1, .int (v)] (hp S) (Rt (none) (hp (si (sa S 2 (va_up (S.2.1 2) n v)) 51 (nI (n + 1))))) := by
  refine Sp_of (by decide +kernel) (Nat.le_of_ble_eq_true rfl) ?_
  show AW none MX6_emit 1 0 0 0 [.ref 1, .int (v)] [] (hp S) _
  refine k_aload_n eX6_emit_0 rfl ?_
  refine GX6_9 eX6_emit_1 rfl ?_
  refine k_aload_n eX6_emit_4 rfl ?_
  refine GX6_18 eX6_emit_5 rfl ?_
  refine k_topi (nI n) hn ?_
  refine k_iload_n eX6_emit_8 rfl ?_
  refine cN0 (M' := MX11_write) eX6_emit_9 mX6_88 wX11_write sX11_write rfl (pX11_writeN (j := n) (v := v) (ar2 _) (by omega) (by decide) (as2 _ _)) (by decide) (Nat.le_of_ble_eq_true rfl) ?_
  refine k_aload_n eX6_emit_12 rfl ?_
  refine k_dup eX6_emit_13 rfl ?_
  refine GX6_18 eX6_emit_14 rfl ?_
  refine k_topi (nI n) hn ?_
  refine k_iconst (v := nI 1) eX6_emit_17 (by decide) ?_
  refine k_iaddN eX6_emit_18 ?_
  refine PX6_18 eX6_emit_19 rfl ?_
  refine k_return eX6_emit_22 rfl ?_
  exact ⟨rfl, rfl⟩
set_option maxHeartbeats 400000 in
theorem pX6_await {S : k_S} {n : Nat} (hn : S.1 53 = nI n) (hn2 : n < 120) (v : Int32) : Sp 1 0 0 MX6_await [.ref 1, .int (v)] (hp S) (Rt (none) (hp (si (sa S 3 (va_up (S.2.1 3) n v)) 53 (nI (n + 1))))) := by
  refine Sp_of (by decide +kernel) (Nat.le_of_ble_eq_true rfl) ?_
  show AW none MX6_await 1 0 0 0 [.ref 1, .int (v)] [] (hp S) _
  refine k_aload_n eX6_await_0 rfl ?_
  refine GX6_15 eX6_await_1 rfl ?_
  refine k_aload_n eX6_await_4 rfl ?_
  refine GX6_22 eX6_await_5 rfl ?_
  refine k_topi (nI n) hn ?_
  refine k_iload_n eX6_await_8 rfl ?_
  refine cN0 (M' := MX11_write) eX6_await_9 mX6_88 wX11_write sX11_write rfl (pX11_writeN (j := n) (v := v) (ar3 _) (by omega) (by decide) (as3 _ _)) (by decide) (Nat.le_of_ble_eq_true rfl) ?_
  refine k_aload_n eX6_await_12 rfl ?_
  refine k_dup eX6_await_13 rfl ?_
  refine GX6_22 eX6_await_14 rfl ?_
  refine k_topi (nI n) hn ?_
  refine k_iconst (v := nI 1) eX6_await_17 (by decide) ?_
  refine k_iaddN eX6_await_18 ?_
  refine PX6_22 eX6_await_19 rfl ?_
  refine k_return eX6_await_22 rfl ?_
  exact ⟨rfl, rfl⟩
theorem stk_hd {f : Nat → Int32} {W : List Int32} (hs : stk f W) (hl : W.length ≤ 120) : rd 120 f (nI W.length - nI 1) = hdI W := by
  cases W with
  | nil => rw [rd, if_neg (by intro q; exact absurd q.1 (by decide))]; rfl
  | cons s r =>
    simp only [List.length_cons] at hl ⊢
    rw [pk_sub (by omega), show r.length + 1 - 1 = r.length by omega, rd_in (by omega) (by decide)]
    exact hs.1
set_option maxHeartbeats 400000 in
theorem pX6_latestWaiting {S : k_S} {W : List Int32} (hn : S.1 53 = nI W.length) (hs : stk (S.2.1 3) W) (hl : W.length ≤ 120) : Sp 1 0 0 MX6_latestWaiting [.ref 1] (hp S) (Rt (some (.int (hdI W))) (hp S)) := by
  refine Sp_of (by decide +kernel) (Nat.le_of_ble_eq_true rfl) ?_
  show AW none MX6_latestWaiting 1 0 0 0 [.ref 1] [] (hp S) _
  refine k_aload_n eX6_latestWaiting_0 rfl ?_
  refine GX6_15 eX6_latestWaiting_1 rfl ?_
  refine k_aload_n eX6_latestWaiting_4 rfl ?_
  refine GX6_22 eX6_latestWaiting_5 rfl ?_
  refine k_topi (nI (W.length)) hn ?_
  refine k_iconst (v := nI 1) eX6_latestWaiting_8 (by decide) ?_
  refine k_isub eX6_latestWaiting_9 ?_
  refine cN1 (M' := MX11_read) eX6_latestWaiting_10 mX6_38 wX11_read sX11_read rfl (pX11_read (i := nI W.length - nI 1) (ar3 _) (by decide)) (by decide) (Nat.le_of_ble_eq_true rfl) ?_
  refine k_topi ((hdI W)) (stk_hd hs hl) ?_
  refine k_ireturn eX6_latestWaiting_13 rfl rfl ?_
  exact ⟨rfl, rfl⟩
