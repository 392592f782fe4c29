theorem va_va (f : Nat → Int32) (j : Nat) (x y : Int32) : va_up (va_up f j x) j y = va_up f j y := by
  funext k; by_cases h : k = j <;> simp [va_up, h]
theorem va_a1 (f : Nat → Int32) (j : Nat) (x : Int32) : va_up f j x j = x := if_pos rfl
theorem va_ne (f : Nat → Int32) {j k : Nat} (x : Int32) (h : k ≠ j) : va_up f j x k = f k := if_neg h
theorem Frm.M {I A J : List Nat} {S T : k_S} (h : Frm I A J S T) (hA : ∀ a ∈ [53, 54, 55, 58, 59, 60, 61, 62, 63], a ∉ A) : vM T = vM S := by
  funext k
  match k with
  | 0 => exact h.2.1 53 (hA 53 (by decide))
  | 1 => exact h.2.1 54 (hA 54 (by decide))
  | 2 => exact h.2.1 55 (hA 55 (by decide))
  | 3 => exact h.2.1 58 (hA 58 (by decide))
  | 4 => exact h.2.1 59 (hA 59 (by decide))
  | 5 => exact h.2.1 60 (hA 60 (by decide))
  | 6 => exact h.2.1 61 (hA 61 (by decide))
  | 7 => exact h.2.1 62 (hA 62 (by decide))
  | n + 8 => exact h.2.1 63 (hA 63 (by decide))
def b2S (T : k_S) (d : Nat) (a b : Int32) : k_S := sa (sa T 78 (va_up (T.2.1 78) d a)) 79 (va_up (T.2.1 79) d b)
theorem b2S_78 (T : k_S) (d : Nat) (a b : Int32) : (b2S T d a b).2.1 78 = va_up (T.2.1 78) d a := rfl
theorem b2S_79 (T : k_S) (d : Nat) (a b : Int32) : (b2S T d a b).2.1 79 = va_up (T.2.1 79) d b := rfl
theorem b2S_up (T : k_S) (d : Nat) (a b a2 b2 : Int32) : sa (sa (b2S T d a b) 78 (va_up ((b2S T d a b).2.1 78) d a2)) 79 (va_up ((sa (b2S T d a b) 78 (va_up ((b2S T d a b).2.1 78) d a2)).2.1 79) d b2) = b2S T d a2 b2 := by
  refine Prod.ext rfl (Prod.ext (funext fun k => ?_) rfl)
  by_cases h : k = 79
  · subst h; show va_up (va_up (T.2.1 79) d b) d b2 = va_up (T.2.1 79) d b2; rw [va_va]
  · by_cases h2 : k = 78
    · subst h2; show va_up (va_up (T.2.1 78) d a) d a2 = va_up (T.2.1 78) d a2; rw [va_va]
    · simp [sa, b2S, va_up, h, h2]
def bW (V : k_V) (dn wk r d : Nat) : Int32 := (bs V dn r d (wk - 1)).2
def bN (V : k_V) (dn wk r d : Nat) : Nat := (bs V dn r d (wk - 1)).1
theorem bN_le (V : k_V) (dn wk r d : Nat) : bN V dn wk r d ≤ wk - 1 := bs_le V dn r d (wk - 1)
/-- how many of the week are ahead of a day -/
def rkN (B : Nat → Int32) (d : Nat) : Nat → Nat
  | 0 => 0
  | j + 1 => rkN B d j + if B d < B (d / 7 * 7 + j) ∨ (B (d / 7 * 7 + j) = B d ∧ d / 7 * 7 + j < d) then 1 else 0
theorem rkN_le (B : Nat → Int32) (d : Nat) : ∀ j, rkN B d j ≤ j
  | 0 => Nat.le_refl _
  | j + 1 => by have := rkN_le B d j; rw [rkN]; split <;> omega
def chN (V : k_V) (dn wk r m d : Nat) : Nat := if rkN (bW V dn wk r) d (min 7 (120 - d / 7 * 7)) < m then bN V dn wk r d else 0
def chV (V : k_V) (dn wk r m : Nat) : Nat → Int32 := sumN (fun d => if chN V dn wk r m d = 0 then nI 0 else bW V dn wk r d)
theorem chN_le (V : k_V) (dn wk r m d : Nat) : chN V dn wk r m d ≤ wk - 1 := by
  have := bN_le V dn wk r d
  rw [chN]; split <;> omega
/-- the rows of the best works -/
def BstOk (V : k_V) (dn wk r : Nat) (S : k_S) : Prop := (∀ i, i < 120 → S.2.1 78 i = nI (bN V dn wk r i)) ∧ (∀ i, i < 120 → S.2.1 79 i = bW V dn wk r i)
set_option maxHeartbeats 400000 in
theorem lX12_findsBest {d : Nat} {Po : Option Value → k_H → Prop} (hdd : 3 ≤ d) {S : k_S} {V : k_V} (hV : vM S = V) {dn : Nat} (hdn : S.1 2611 = nI dn) (hcd : CntOk V dn) {wk : Nat} (hwk : S.1 2600 = nI wk) (hwk1 : 1 ≤ wk) (hwk6 : wk ≤ 6) {r dd : Nat} (hr : r < 5) (hdd2 : dd < 120) (kx : AW none MX12_findsBest d 0 0 73 [.ref 52, .int (nI r), .int (nI dd), .int (nI (((wk - 1)) + 1)), .null] [] (hp (b2S S dd (nI (bs V dn r dd ((wk - 1))).1) (bs V dn r dd ((wk - 1))).2)) Po) : ∀ (n j : Nat), j + n = (wk - 1) → AW none MX12_findsBest d 0 0 24 [.ref 52, .int (nI r), .int (nI dd), .int (nI (j + 1)), .null] [] (hp (b2S S dd (nI (bs V dn r dd j).1) (bs V dn r dd j).2)) Po := by
  intro n
  induction n with
  | zero =>
    intro j hj
    rw [show j = (wk - 1) by omega]
    refine k_iload_n eX12_findsBest_24 rfl ?_
    refine k_aload_n eX12_findsBest_25 rfl ?_
    refine GX12_7 eX12_findsBest_26 rfl ?_
    refine k_topi (nI wk) hwk ?_
    refine k_icmp_geN 73 eX12_findsBest_29 (by decide) (by omega) (by omega) (fun c_29 => ?_) (fun c_29 => by exfalso; omega)
    exact kx
  | succ n ih =>
    intro j hj
    obtain ⟨T, hT⟩ : ∃ T, (b2S S dd (nI (bs V dn r dd j).1) (bs V dn r dd j).2) = T := ⟨_, rfl⟩
    have hV2 : vM T = V := by rw [← hT]; exact hV
    have hdn2 : T.1 2611 = nI dn := by rw [← hT]; exact hdn
    have hwk2 : T.1 2600 = nI wk := by rw [← hT]; exact hwk
    have h79 : T.2.1 79 dd = (bs V dn r dd j).2 := by rw [← hT, b2S_79, va_a1]
    rw [hT]
    refine k_iload_n eX12_findsBest_24 rfl ?_
    refine k_aload_n eX12_findsBest_25 rfl ?_
    refine GX12_7 eX12_findsBest_26 rfl ?_
    refine k_topi (nI wk) hwk2 ?_
    refine k_icmp_geN 73 eX12_findsBest_29 (by decide) (by omega) (by omega) (fun c_29 => by exfalso; omega) (fun c_29 => ?_)
    refine k_aload_n eX12_findsBest_32 rfl ?_
    refine k_iload_n eX12_findsBest_33 rfl ?_
    refine k_iload_n eX12_findsBest_34 rfl ?_
    refine k_iload_n eX12_findsBest_35 rfl ?_
    refine cV1 (M' := MX12_worthOf) eX12_findsBest_36 mX12_186 wX12_worthOf vX12_worthOf ⟨_, _, _, rfl, rfl, rfl⟩ rfl (pX12_worthOf (S := T) (V := V) (dn := dn) (r := r) (w := j + 1) (dd := dd) hV2 hdn2 hcd (by omega) (by omega) (by omega)) (by omega) (Nat.le_of_ble_eq_true rfl) ?_
    refine k_istore (L2 := [_, _, _, _, _]) eX12_findsBest_39 (Nat.le_of_ble_eq_true rfl) rfl ?_
    refine k_iload eX12_findsBest_41 rfl ?_
    refine k_aload_n eX12_findsBest_43 rfl ?_
    refine GX12_96 eX12_findsBest_44 rfl ?_
    refine k_iload_n eX12_findsBest_47 rfl ?_
    refine k_ialdN (j := dd) eX12_findsBest_48 (ar79 _) (by omega) (Nat.le_of_ble_eq_true rfl) ?_
    refine k_topi ((bs V dn r dd j).2) h79 ?_
    refine k_icmp_le 67 eX12_findsBest_49 (by decide) (fun c_49 => ?_) (fun c_49 => ?_)
    · refine k_iincN (g := 1) (a := (j + 1)) (L2 := [_, _, _, _, _]) eX12_findsBest_67 (Nat.le_of_ble_eq_true rfl) rfl rfl ?_
      refine k_goto 24 eX12_findsBest_70 (by decide) ?_
      refine k_forget 4 (L2 := [_, _, _, _, _]) rfl ?_
      have q := ih (j + 1) (by omega)
      rw [bs] at q
      subst hT
      first | (rw [if_neg (Int32.not_lt.mpr c_49)] at q; exact q) | (rw [if_pos (Int32.not_le.mp c_49)] at q; rw [b2S_up]; exact q)
    refine k_aload_n eX12_findsBest_52 rfl ?_
    refine GX12_93 eX12_findsBest_53 rfl ?_
    refine k_iload_n eX12_findsBest_56 rfl ?_
    refine k_iload_n eX12_findsBest_57 rfl ?_
    refine k_iastN (j := dd) eX12_findsBest_58 (ar78 _) (by omega) (Nat.le_of_ble_eq_true rfl) (as78 _ _) ?_
    refine k_aload_n eX12_findsBest_59 rfl ?_
    refine GX12_96 eX12_findsBest_60 rfl ?_
    refine k_iload_n eX12_findsBest_63 rfl ?_
    refine k_iload eX12_findsBest_64 rfl ?_
    refine k_iastN (j := dd) eX12_findsBest_66 (ar79 _) (by omega) (Nat.le_of_ble_eq_true rfl) (as79 _ _) ?_
    refine k_iincN (g := 1) (a := (j + 1)) (L2 := [_, _, _, _, _]) eX12_findsBest_67 (Nat.le_of_ble_eq_true rfl) rfl rfl ?_
    refine k_goto 24 eX12_findsBest_70 (by decide) ?_
    refine k_forget 4 (L2 := [_, _, _, _, _]) rfl ?_
    have q := ih (j + 1) (by omega)
    rw [bs] at q
    subst hT
    first | (rw [if_neg (Int32.not_lt.mpr c_49)] at q; exact q) | (rw [if_pos (Int32.not_le.mp c_49)] at q; rw [b2S_up]; exact q)
set_option maxHeartbeats 400000 in
theorem mX12_findsBest {d0 : Nat} (hdd : 3 ≤ d0) {S0 : k_S} {V : k_V} (hV : vM S0 = V) {dn : Nat} (hdn : S0.1 2611 = nI dn) (hcd : CntOk V dn) {wk : Nat} (hwk : S0.1 2600 = nI wk) (hwk1 : 1 ≤ wk) (hwk6 : wk ≤ 6) {r : Nat} (hr : r < 5) : ∀ (k j : Nat) (S : k_S), j + k = 120 → (∀ i, i < j → S.2.1 78 i = nI (bN V dn wk r i)) → (∀ i, i < j → S.2.1 79 i = bW V dn wk r i) → (Frm [] [78, 79] [] S0 S) → AW none MX12_findsBest d0 0 0 2 [.ref 52, .int (nI r), .int (nI j), .null, .null] [] (hp S) (Rx none (fun S' => BstOk V dn wk r S' ∧ Frm [] [78, 79] [] S0 S')) := by
  intro k
  induction k with
  | zero =>
    intro j S hj h78 h79 f0
    have ej : j = 120 := by omega
    subst ej
    refine k_iload_n eX12_findsBest_2 rfl ?_
    refine k_bipush (v := nI 120) eX12_findsBest_3 (by decide) ?_
    refine k_icmp_geN 79 eX12_findsBest_5 (by decide) (by omega) (by omega) (fun c_5 => ?_) (fun c_5 => by exfalso; omega)
    refine k_return eX12_findsBest_79 rfl ?_
    exact ⟨rfl, S, rfl, ⟨h78, h79⟩, f0⟩
  | succ k ih =>
    intro j S hj h78 h79 f0
    have hV1 : vM S = V := (f0.M (by decide)).trans hV
    have hdn1 : S.1 2611 = nI dn := (f0.1 2611 (by decide)).trans hdn
    have hwk1' : S.1 2600 = nI wk := (f0.1 2600 (by decide)).trans hwk
    refine k_iload_n eX12_findsBest_2 rfl ?_
    refine k_bipush (v := nI 120) eX12_findsBest_3 (by decide) ?_
    refine k_icmp_geN 79 eX12_findsBest_5 (by decide) (by omega) (by omega) (fun c_5 => by exfalso; omega) (fun c_5 => ?_)
    refine k_aload_n eX12_findsBest_8 rfl ?_
    refine GX12_93 eX12_findsBest_9 rfl ?_
    refine k_iload_n eX12_findsBest_12 rfl ?_
    refine k_iconst (v := nI 0) eX12_findsBest_13 (by decide) ?_
    refine k_iastN (j := j) eX12_findsBest_14 (ar78 _) (by omega) (Nat.le_of_ble_eq_true rfl) (as78 _ _) ?_
    refine k_aload_n eX12_findsBest_15 rfl ?_
    refine GX12_96 eX12_findsBest_16 rfl ?_
    refine k_iload_n eX12_findsBest_19 rfl ?_
    refine k_iconst (v := nI 0) eX12_findsBest_20 (by decide) ?_
    refine k_iastN (j := j) eX12_findsBest_21 (ar79 _) (by omega) (Nat.le_of_ble_eq_true rfl) (as79 _ _) ?_
    refine k_iconst (v := nI 1) eX12_findsBest_22 (by decide) ?_
    refine k_istore_n (L2 := [_, _, _, _, _]) eX12_findsBest_23 (Nat.le_of_ble_eq_true rfl) rfl ?_
    refine k_heap (h2 := hp (b2S S j (nI (bs V dn r j 0).1) (bs V dn r j 0).2)) rfl ?_
    refine k_loc (L2 := [_, _, _, .int (nI (0 + 1)), _]) rfl ?_
    refine lX12_findsBest (by omega) (S := S) hV1 hdn1 hcd hwk1' hwk1 hwk6 hr (dd := j) (by omega) ?_ (wk - 1) 0 (by omega)
    refine k_iincN (g := 1) (a := j) (L2 := [_, _, _, _, _]) eX12_findsBest_73 (Nat.le_of_ble_eq_true rfl) rfl rfl ?_
    refine k_goto 2 eX12_findsBest_76 (by decide) ?_
    refine k_forget 3 (L2 := [_, _, _, _, _]) rfl ?_
    refine ih (j + 1) _ (by omega) (fun i hi => ?_) (fun i hi => ?_) ((f0.sa (by decide) _).sa (by decide) _)
    · show va_up (S.2.1 78) j _ i = _
      by_cases hij : i = j
      · subst hij; rw [va_a1]; rfl
      · rw [va_ne _ _ hij]; exact h78 i (by omega)
    · show va_up (S.2.1 79) j _ i = _
      by_cases hij : i = j
      · subst hij; rw [va_a1]; rfl
      · rw [va_ne _ _ hij]; exact h79 i (by omega)
set_option maxHeartbeats 400000 in
theorem pX12_findsBest {S : k_S} {V : k_V} (hV : vM S = V) {dn : Nat} (hdn : S.1 2611 = nI dn) (hcd : CntOk V dn) {wk : Nat} (hwk : S.1 2600 = nI wk) (hwk1 : 1 ≤ wk) (hwk6 : wk ≤ 6) {r : Nat} (hr : r < 5) : Sp 3 0 0 MX12_findsBest [.ref 52, .int (nI r)] (hp S) (Rx none (fun S' => BstOk V dn wk r S' ∧ Frm [] [78, 79] [] S S')) := by
  refine Sp_of (by decide +kernel) (Nat.le_of_ble_eq_true rfl) ?_
  show AW none MX12_findsBest 3 0 0 0 [.ref 52, .int (nI r), .null, .null, .null] [] (hp S) _
  refine k_iconst (v := nI 0) eX12_findsBest_0 (by decide) ?_
  refine k_istore_n (L2 := [_, _, _, _, _]) eX12_findsBest_1 (Nat.le_of_ble_eq_true rfl) rfl ?_
  exact mX12_findsBest (by decide) hV hdn hcd hwk hwk1 hwk6 hr 120 0 S (by omega) (fun i hi => absurd hi (by omega)) (fun i hi => absurd hi (by omega)) (Frm.rf S)
set_option maxHeartbeats 400000 in
theorem lX12_choosesA {d : Nat} {Po : Option Value → k_H → Prop} (hdd : 0 ≤ d) {S : k_S} {V : k_V} {dn wk r m : Nat} (hb : BstOk V dn wk r S) (x : Int32) {dd : Nat} (hdd2 : dd < 120) (hc : dd / 7 * 7 + 7 ≤ 120) (kx : AW none MX12_chooses d 0 0 110 [.ref 52, .int (nI r), .int (nI m), .int (x), .int (nI dd), .int (nI (rkN (bW V dn wk r) dd 7)), .int (nI (dd / 7 * 7 + 7))] [] (hp S) Po) : ∀ (n j : Nat), j + n = 7 → AW none MX12_chooses d 0 0 30 [.ref 52, .int (nI r), .int (nI m), .int (x), .int (nI dd), .int (nI (rkN (bW V dn wk r) dd j)), .int (nI (dd / 7 * 7 + j))] [] (hp S) Po := by
  intro n
  induction n with
  | zero =>
    intro j hj
    rw [show j = 7 by omega]
    refine k_iload eX12_chooses_30 rfl ?_
    refine k_iload eX12_chooses_32 rfl ?_
    refine k_bipush (v := nI 7) eX12_chooses_34 (by decide) ?_
    refine k_idivN eX12_chooses_36 (by omega) (by omega) (by omega) ?_
    refine k_bipush (v := nI 7) eX12_chooses_37 (by decide) ?_
    refine k_imulN eX12_chooses_39 ?_
    refine k_bipush (v := nI 7) eX12_chooses_40 (by decide) ?_
    refine k_iaddN eX12_chooses_42 ?_
    refine k_icmp_geN 110 eX12_chooses_43 (by decide) (by omega) (by omega) (fun c_43 => ?_) (fun c_43 => by exfalso; omega)
    exact kx
  | succ n ih =>
    intro j hj
    have hrk := rkN_le (bW V dn wk r) dd j
    refine k_iload eX12_chooses_30 rfl ?_
    refine k_iload eX12_chooses_32 rfl ?_
    refine k_bipush (v := nI 7) eX12_chooses_34 (by decide) ?_
    refine k_idivN eX12_chooses_36 (by omega) (by omega) (by omega) ?_
    refine k_bipush (v := nI 7) eX12_chooses_37 (by decide) ?_
    refine k_imulN eX12_chooses_39 ?_
    refine k_bipush (v := nI 7) eX12_chooses_40 (by decide) ?_
    refine k_iaddN eX12_chooses_42 ?_
    refine k_icmp_geN 110 eX12_chooses_43 (by decide) (by omega) (by omega) (fun c_43 => by exfalso; omega) (fun c_43 => ?_)
    refine k_iload eX12_chooses_46 rfl ?_
    refine k_bipush (v := nI 120) eX12_chooses_48 (by decide) ?_
    refine k_icmp_geN 110 eX12_chooses_50 (by decide) (by omega) (by omega) (fun c_50 => by exfalso; omega) (fun c_50 => ?_)
    refine k_iload eX12_chooses_53 rfl ?_
    refine k_aload_n eX12_chooses_55 rfl ?_
    refine GX12_96 eX12_chooses_56 rfl ?_
    refine k_iload eX12_chooses_59 rfl ?_
    refine k_ialdN (j := (dd / 7 * 7 + j)) eX12_chooses_61 (ar79 _) (by omega) (Nat.le_of_ble_eq_true rfl) ?_
    refine k_topi ((bW V dn wk r (dd / 7 * 7 + j))) (hb.2 _ (by omega)) ?_
    refine k_aload_n eX12_chooses_62 rfl ?_
    refine GX12_96 eX12_chooses_63 rfl ?_
    refine k_iload eX12_chooses_66 rfl ?_
    refine k_ialdN (j := dd) eX12_chooses_68 (ar79 _) (by omega) (Nat.le_of_ble_eq_true rfl) ?_
    refine k_topi ((bW V dn wk r dd)) (hb.2 _ (by omega)) ?_
    refine k_icmp_gt 96 eX12_chooses_69 (by decide) (fun c_69 => ?_) (fun c_69 => ?_)
    · refine k_iconst (v := nI 1) eX12_chooses_96 (by decide) ?_
      refine k_goto 101 eX12_chooses_97 (by decide) ?_
      refine k_iaddN eX12_chooses_101 ?_
      refine k_istore (L2 := [_, _, _, _, _, _, _]) eX12_chooses_102 (Nat.le_of_ble_eq_true rfl) rfl ?_
      refine k_iincN (g := 1) (a := (dd / 7 * 7 + j)) (L2 := [_, _, _, _, _, _, _]) eX12_chooses_104 (Nat.le_of_ble_eq_true rfl) rfl rfl ?_
      refine k_goto 30 eX12_chooses_107 (by decide) ?_
      have q := ih (j + 1) (by omega)
      rw [rkN] at q
      first | (rw [if_pos (Or.inl c_69)] at q; exact q) | (rw [if_pos (Or.inr ⟨c_86, by omega⟩)] at q; exact q) | (rw [if_neg (fun z => by rcases z with z | z <;> first | exact c_69 z | exact c_86 z.1 | exact absurd z.2 (by omega))] at q; exact q)
    refine k_aload_n eX12_chooses_72 rfl ?_
    refine GX12_96 eX12_chooses_73 rfl ?_
    refine k_iload eX12_chooses_76 rfl ?_
    refine k_ialdN (j := (dd / 7 * 7 + j)) eX12_chooses_78 (ar79 _) (by omega) (Nat.le_of_ble_eq_true rfl) ?_
    refine k_topi ((bW V dn wk r (dd / 7 * 7 + j))) (hb.2 _ (by omega)) ?_
    refine k_aload_n eX12_chooses_79 rfl ?_
    refine GX12_96 eX12_chooses_80 rfl ?_
    refine k_iload eX12_chooses_83 rfl ?_
    refine k_ialdN (j := dd) eX12_chooses_85 (ar79 _) (by omega) (Nat.le_of_ble_eq_true rfl) ?_
    refine k_topi ((bW V dn wk r dd)) (hb.2 _ (by omega)) ?_
    refine k_icmp_ne 100 eX12_chooses_86 (by decide) (fun c_86 => ?_) (fun c_86 => ?_)
    · refine k_iconst (v := nI 0) eX12_chooses_100 (by decide) ?_
      refine k_iaddN eX12_chooses_101 ?_
      refine k_istore (L2 := [_, _, _, _, _, _, _]) eX12_chooses_102 (Nat.le_of_ble_eq_true rfl) rfl ?_
      refine k_iincN (g := 1) (a := (dd / 7 * 7 + j)) (L2 := [_, _, _, _, _, _, _]) eX12_chooses_104 (Nat.le_of_ble_eq_true rfl) rfl rfl ?_
      refine k_goto 30 eX12_chooses_107 (by decide) ?_
      have q := ih (j + 1) (by omega)
      rw [rkN] at q
      first | (rw [if_pos (Or.inl c_69)] at q; exact q) | (rw [if_pos (Or.inr ⟨c_86, by omega⟩)] at q; exact q) | (rw [if_neg (fun z => by rcases z with z | z <;> first | exact c_69 z | exact c_86 z.1 | exact absurd z.2 (by omega))] at q; exact q)
    refine k_iload eX12_chooses_89 rfl ?_
    refine k_iload eX12_chooses_91 rfl ?_
    refine k_icmp_geN 100 eX12_chooses_93 (by decide) (by omega) (by omega) (fun c_93 => ?_) (fun c_93 => ?_)
    · refine k_iconst (v := nI 0) eX12_chooses_100 (by decide) ?_
      refine k_iaddN eX12_chooses_101 ?_
      refine k_istore (L2 := [_, _, _, _, _, _, _]) eX12_chooses_102 (Nat.le_of_ble_eq_true rfl) rfl ?_
      refine k_iincN (g := 1) (a := (dd / 7 * 7 + j)) (L2 := [_, _, _, _, _, _, _]) eX12_chooses_104 (Nat.le_of_ble_eq_true rfl) rfl rfl ?_
      refine k_goto 30 eX12_chooses_107 (by decide) ?_
      have q := ih (j + 1) (by omega)
      rw [rkN] at q
      first | (rw [if_pos (Or.inl c_69)] at q; exact q) | (rw [if_pos (Or.inr ⟨c_86, by omega⟩)] at q; exact q) | (rw [if_neg (fun z => by rcases z with z | z <;> first | exact c_69 z | exact c_86 z.1 | exact absurd z.2 (by omega))] at q; exact q)
    refine k_iconst (v := nI 1) eX12_chooses_96 (by decide) ?_
    refine k_goto 101 eX12_chooses_97 (by decide) ?_
    refine k_iaddN eX12_chooses_101 ?_
    refine k_istore (L2 := [_, _, _, _, _, _, _]) eX12_chooses_102 (Nat.le_of_ble_eq_true rfl) rfl ?_
    refine k_iincN (g := 1) (a := (dd / 7 * 7 + j)) (L2 := [_, _, _, _, _, _, _]) eX12_chooses_104 (Nat.le_of_ble_eq_true rfl) rfl rfl ?_
    refine k_goto 30 eX12_chooses_107 (by decide) ?_
    have q := ih (j + 1) (by omega)
    rw [rkN] at q
    first | (rw [if_pos (Or.inl c_69)] at q; exact q) | (rw [if_pos (Or.inr ⟨c_86, by omega⟩)] at q; exact q) | (rw [if_neg (fun z => by rcases z with z | z <;> first | exact c_69 z | exact c_86 z.1 | exact absurd z.2 (by omega))] at q; exact q)
set_option maxHeartbeats 400000 in
theorem lX12_choosesB {d : Nat} {Po : Option Value → k_H → Prop} (hdd : 0 ≤ d) {S : k_S} {V : k_V} {dn wk r m : Nat} (hb : BstOk V dn wk r S) (x : Int32) {dd : Nat} (hdd2 : dd < 120) (hc : ¬ dd / 7 * 7 + 7 ≤ 120) (kx : AW none MX12_chooses d 0 0 110 [.ref 52, .int (nI r), .int (nI m), .int (x), .int (nI dd), .int (nI (rkN (bW V dn wk r) dd ((120 - dd / 7 * 7)))), .int (nI (dd / 7 * 7 + ((120 - dd / 7 * 7))))] [] (hp S) Po) : ∀ (n j : Nat), j + n = (120 - dd / 7 * 7) → AW none MX12_chooses d 0 0 30 [.ref 52, .int (nI r), .int (nI m), .int (x), .int (nI dd), .int (nI (rkN (bW V dn wk r) dd j)), .int (nI (dd / 7 * 7 + j))] [] (hp S) Po := by
  intro n
  induction n with
  | zero =>
    intro j hj
    rw [show j = (120 - dd / 7 * 7) by omega]
    refine k_iload eX12_chooses_30 rfl ?_
    refine k_iload eX12_chooses_32 rfl ?_
    refine k_bipush (v := nI 7) eX12_chooses_34 (by decide) ?_
    refine k_idivN eX12_chooses_36 (by omega) (by omega) (by omega) ?_
    refine k_bipush (v := nI 7) eX12_chooses_37 (by decide) ?_
    refine k_imulN eX12_chooses_39 ?_
    refine k_bipush (v := nI 7) eX12_chooses_40 (by decide) ?_
    refine k_iaddN eX12_chooses_42 ?_
    refine k_icmp_geN 110 eX12_chooses_43 (by decide) (by omega) (by omega) (fun c_43 => by exfalso; omega) (fun c_43 => ?_)
    refine k_iload eX12_chooses_46 rfl ?_
    refine k_bipush (v := nI 120) eX12_chooses_48 (by decide) ?_
    refine k_icmp_geN 110 eX12_chooses_50 (by decide) (by omega) (by omega) (fun c_50 => ?_) (fun c_50 => by exfalso; omega)
    exact kx
  | succ n ih =>
    intro j hj
    have hrk := rkN_le (bW V dn wk r) dd j
    refine k_iload eX12_chooses_30 rfl ?_
    refine k_iload eX12_chooses_32 rfl ?_
    refine k_bipush (v := nI 7) eX12_chooses_34 (by decide) ?_
    refine k_idivN eX12_chooses_36 (by omega) (by omega) (by omega) ?_
    refine k_bipush (v := nI 7) eX12_chooses_37 (by decide) ?_
    refine k_imulN eX12_chooses_39 ?_
    refine k_bipush (v := nI 7) eX12_chooses_40 (by decide) ?_
    refine k_iaddN eX12_chooses_42 ?_
    refine k_icmp_geN 110 eX12_chooses_43 (by decide) (by omega) (by omega) (fun c_43 => by exfalso; omega) (fun c_43 => ?_)
    refine k_iload eX12_chooses_46 rfl ?_
    refine k_bipush (v := nI 120) eX12_chooses_48 (by decide) ?_
    refine k_icmp_geN 110 eX12_chooses_50 (by decide) (by omega) (by omega) (fun c_50 => by exfalso; omega) (fun c_50 => ?_)
    refine k_iload eX12_chooses_53 rfl ?_
    refine k_aload_n eX12_chooses_55 rfl ?_
    refine GX12_96 eX12_chooses_56 rfl ?_
    refine k_iload eX12_chooses_59 rfl ?_
    refine k_ialdN (j := (dd / 7 * 7 + j)) eX12_chooses_61 (ar79 _) (by omega) (Nat.le_of_ble_eq_true rfl) ?_
    refine k_topi ((bW V dn wk r (dd / 7 * 7 + j))) (hb.2 _ (by omega)) ?_
    refine k_aload_n eX12_chooses_62 rfl ?_
    refine GX12_96 eX12_chooses_63 rfl ?_
    refine k_iload eX12_chooses_66 rfl ?_
    refine k_ialdN (j := dd) eX12_chooses_68 (ar79 _) (by omega) (Nat.le_of_ble_eq_true rfl) ?_
    refine k_topi ((bW V dn wk r dd)) (hb.2 _ (by omega)) ?_
    refine k_icmp_gt 96 eX12_chooses_69 (by decide) (fun c_69 => ?_) (fun c_69 => ?_)
    · refine k_iconst (v := nI 1) eX12_chooses_96 (by decide) ?_
      refine k_goto 101 eX12_chooses_97 (by decide) ?_
      refine k_iaddN eX12_chooses_101 ?_
      refine k_istore (L2 := [_, _, _, _, _, _, _]) eX12_chooses_102 (Nat.le_of_ble_eq_true rfl) rfl ?_
      refine k_iincN (g := 1) (a := (dd / 7 * 7 + j)) (L2 := [_, _, _, _, _, _, _]) eX12_chooses_104 (Nat.le_of_ble_eq_true rfl) rfl rfl ?_
      refine k_goto 30 eX12_chooses_107 (by decide) ?_
      have q := ih (j + 1) (by omega)
      rw [rkN] at q
      first | (rw [if_pos (Or.inl c_69)] at q; exact q) | (rw [if_pos (Or.inr ⟨c_86, by omega⟩)] at q; exact q) | (rw [if_neg (fun z => by rcases z with z | z <;> first | exact c_69 z | exact c_86 z.1 | exact absurd z.2 (by omega))] at q; exact q)
    refine k_aload_n eX12_chooses_72 rfl ?_
    refine GX12_96 eX12_chooses_73 rfl ?_
    refine k_iload eX12_chooses_76 rfl ?_
    refine k_ialdN (j := (dd / 7 * 7 + j)) eX12_chooses_78 (ar79 _) (by omega) (Nat.le_of_ble_eq_true rfl) ?_
    refine k_topi ((bW V dn wk r (dd / 7 * 7 + j))) (hb.2 _ (by omega)) ?_
    refine k_aload_n eX12_chooses_79 rfl ?_
    refine GX12_96 eX12_chooses_80 rfl ?_
    refine k_iload eX12_chooses_83 rfl ?_
    refine k_ialdN (j := dd) eX12_chooses_85 (ar79 _) (by omega) (Nat.le_of_ble_eq_true rfl) ?_
    refine k_topi ((bW V dn wk r dd)) (hb.2 _ (by omega)) ?_
    refine k_icmp_ne 100 eX12_chooses_86 (by decide) (fun c_86 => ?_) (fun c_86 => ?_)
    · refine k_iconst (v := nI 0) eX12_chooses_100 (by decide) ?_
      refine k_iaddN eX12_chooses_101 ?_
      refine k_istore (L2 := [_, _, _, _, _, _, _]) eX12_chooses_102 (Nat.le_of_ble_eq_true rfl) rfl ?_
      refine k_iincN (g := 1) (a := (dd / 7 * 7 + j)) (L2 := [_, _, _, _, _, _, _]) eX12_chooses_104 (Nat.le_of_ble_eq_true rfl) rfl rfl ?_
      refine k_goto 30 eX12_chooses_107 (by decide) ?_
      have q := ih (j + 1) (by omega)
      rw [rkN] at q
      first | (rw [if_pos (Or.inl c_69)] at q; exact q) | (rw [if_pos (Or.inr ⟨c_86, by omega⟩)] at q; exact q) | (rw [if_neg (fun z => by rcases z with z | z <;> first | exact c_69 z | exact c_86 z.1 | exact absurd z.2 (by omega))] at q; exact q)
    refine k_iload eX12_chooses_89 rfl ?_
    refine k_iload eX12_chooses_91 rfl ?_
    refine k_icmp_geN 100 eX12_chooses_93 (by decide) (by omega) (by omega) (fun c_93 => ?_) (fun c_93 => ?_)
    · refine k_iconst (v := nI 0) eX12_chooses_100 (by decide) ?_
      refine k_iaddN eX12_chooses_101 ?_
      refine k_istore (L2 := [_, _, _, _, _, _, _]) eX12_chooses_102 (Nat.le_of_ble_eq_true rfl) rfl ?_
      refine k_iincN (g := 1) (a := (dd / 7 * 7 + j)) (L2 := [_, _, _, _, _, _, _]) eX12_chooses_104 (Nat.le_of_ble_eq_true rfl) rfl rfl ?_
      refine k_goto 30 eX12_chooses_107 (by decide) ?_
      have q := ih (j + 1) (by omega)
      rw [rkN] at q
      first | (rw [if_pos (Or.inl c_69)] at q; exact q) | (rw [if_pos (Or.inr ⟨c_86, by omega⟩)] at q; exact q) | (rw [if_neg (fun z => by rcases z with z | z <;> first | exact c_69 z | exact c_86 z.1 | exact absurd z.2 (by omega))] at q; exact q)
    refine k_iconst (v := nI 1) eX12_chooses_96 (by decide) ?_
    refine k_goto 101 eX12_chooses_97 (by decide) ?_
    refine k_iaddN eX12_chooses_101 ?_
    refine k_istore (L2 := [_, _, _, _, _, _, _]) eX12_chooses_102 (Nat.le_of_ble_eq_true rfl) rfl ?_
    refine k_iincN (g := 1) (a := (dd / 7 * 7 + j)) (L2 := [_, _, _, _, _, _, _]) eX12_chooses_104 (Nat.le_of_ble_eq_true rfl) rfl rfl ?_
    refine k_goto 30 eX12_chooses_107 (by decide) ?_
    have q := ih (j + 1) (by omega)
    rw [rkN] at q
    first | (rw [if_pos (Or.inl c_69)] at q; exact q) | (rw [if_pos (Or.inr ⟨c_86, by omega⟩)] at q; exact q) | (rw [if_neg (fun z => by rcases z with z | z <;> first | exact c_69 z | exact c_86 z.1 | exact absurd z.2 (by omega))] at q; exact q)
theorem lX12_rank {d : Nat} {Po : Option Value → k_H → Prop} (hdd : 0 ≤ d) {S : k_S} {V : k_V} {dn wk r m : Nat} (hb : BstOk V dn wk r S) (x : Int32) {dd : Nat} (hdd2 : dd < 120) (kx : AW none MX12_chooses d 0 0 110 [.ref 52, .int (nI r), .int (nI m), .int (x), .int (nI dd), .int (nI (rkN (bW V dn wk r) dd ((min 7 (120 - dd / 7 * 7))))), .int (nI (dd / 7 * 7 + ((min 7 (120 - dd / 7 * 7)))))] [] (hp S) Po) : AW none MX12_chooses d 0 0 30 [.ref 52, .int (nI r), .int (nI m), .int (x), .int (nI dd), .int (nI (rkN (bW V dn wk r) dd 0)), .int (nI (dd / 7 * 7 + 0))] [] (hp S) Po := by
  by_cases hc : dd / 7 * 7 + 7 ≤ 120
  · exact lX12_choosesA hdd hb x hdd2 hc (by rw [show min 7 (120 - dd / 7 * 7) = 7 by omega] at kx; exact kx) 7 0 (by omega)
  · exact lX12_choosesB hdd hb x hdd2 hc (by rw [show min 7 (120 - dd / 7 * 7) = 120 - dd / 7 * 7 by omega] at kx; exact kx) (120 - dd / 7 * 7) 0 (by omega)
def ch80 (S : k_S) (V : k_V) (dn wk r m j : Nat) : k_S := sa S 80 (fillN (fun d => nI (chN V dn wk r m d)) (S.2.1 80) j)
set_option maxHeartbeats 400000 in
theorem lX12_chooses {d : Nat} {Po : Option Value → k_H → Prop} (hdd : 0 ≤ d) {S : k_S} {V : k_V} {dn wk r m : Nat} (hwk6 : wk ≤ 6) (hm : m ≤ 7) (hb : BstOk V dn wk r S) (kx : AW none MX12_chooses d 0 0 164 [.ref 52, .int (nI r), .int (nI m), .int ((chV V dn wk r m 120)), .int (nI 120), .null, .null] [] (hp (ch80 S V dn wk r m 120)) Po) : ∀ (n j : Nat), j + n = 120 → AW none MX12_chooses d 0 0 10 [.ref 52, .int (nI r), .int (nI m), .int ((chV V dn wk r m j)), .int (nI j), .null, .null] [] (hp (ch80 S V dn wk r m j)) Po := by
  intro n
  induction n with
  | zero =>
    intro j hj
    rw [show j = 120 by omega]
    refine k_iload eX12_chooses_10 rfl ?_
    refine k_bipush (v := nI 120) eX12_chooses_12 (by decide) ?_
    refine k_icmp_geN 164 eX12_chooses_14 (by decide) (by omega) (by omega) (fun c_14 => ?_) (fun c_14 => by exfalso; omega)
    exact kx
  | succ n ih =>
    intro j hj
    obtain ⟨T, hT⟩ : ∃ T, (ch80 S V dn wk r m j) = T := ⟨_, rfl⟩
    have hb2 : BstOk V dn wk r T := by rw [← hT]; exact hb
    have hrk := rkN_le (bW V dn wk r) j (min 7 (120 - j / 7 * 7))
    have hbl := bN_le V dn wk r j
    rw [hT]
    refine k_iload eX12_chooses_10 rfl ?_
    refine k_bipush (v := nI 120) eX12_chooses_12 (by decide) ?_
    refine k_icmp_geN 164 eX12_chooses_14 (by decide) (by omega) (by omega) (fun c_14 => by exfalso; omega) (fun c_14 => ?_)
    refine k_iconst (v := nI 0) eX12_chooses_17 (by decide) ?_
    refine k_istore (L2 := [_, _, _, _, _, _, _]) eX12_chooses_18 (Nat.le_of_ble_eq_true rfl) rfl ?_
    refine k_iload eX12_chooses_20 rfl ?_
    refine k_bipush (v := nI 7) eX12_chooses_22 (by decide) ?_
    refine k_idivN eX12_chooses_24 (by omega) (by omega) (by omega) ?_
    refine k_bipush (v := nI 7) eX12_chooses_25 (by decide) ?_
    refine k_imulN eX12_chooses_27 ?_
    refine k_istore (L2 := [_, _, _, _, _, _, _]) eX12_chooses_28 (Nat.le_of_ble_eq_true rfl) rfl ?_
    refine k_loc (L2 := [_, _, _, _, _, .int (nI (rkN (bW V dn wk r) j 0)), .int (nI (j / 7 * 7 + 0))]) rfl ?_
    refine lX12_rank (by omega) (S := T) (V := V) (dn := dn) (wk := wk) hb2 _ (dd := j) (by omega) ?_
    refine k_aload_n eX12_chooses_110 rfl ?_
    refine GX12_99 eX12_chooses_111 rfl ?_
    refine k_iload eX12_chooses_114 rfl ?_
    refine k_iload eX12_chooses_116 rfl ?_
    refine k_iload_n eX12_chooses_118 rfl ?_
    refine k_icmp_geN 132 eX12_chooses_119 (by decide) (by omega) (by omega) (fun c_119 => ?_) (fun c_119 => ?_)
    · refine k_iconst (v := nI 0) eX12_chooses_132 (by decide) ?_
      have hcl := chN_le V dn wk r m j
      refine k_topi (nI (chN V dn wk r m j)) (by first | rw [chN, if_pos (by omega)] | rw [chN, if_neg (by omega)]) ?_
      refine k_iastN (j := j) eX12_chooses_133 (ar80 _) (by omega) (Nat.le_of_ble_eq_true rfl) (as80 _ _) ?_
      refine k_iload_n eX12_chooses_134 rfl ?_
      refine k_aload_n eX12_chooses_135 rfl ?_
      refine GX12_99 eX12_chooses_136 rfl ?_
      refine k_iload eX12_chooses_139 rfl ?_
      refine k_ialdN (j := j) eX12_chooses_141 (ar80 _) (by omega) (Nat.le_of_ble_eq_true rfl) ?_
      refine k_topi (nI (chN V dn wk r m j)) (by rw [sa_at, va_a1]) ?_
      refine k_if_leN 155 eX12_chooses_142 (by decide) (by omega) (fun c_142 => ?_) (fun c_142 => ?_)
      · refine k_iconst (v := nI 0) eX12_chooses_155 (by decide) ?_
        refine k_iadd eX12_chooses_156 ?_
        refine k_istore_n (L2 := [_, _, _, _, _, _, _]) eX12_chooses_157 (Nat.le_of_ble_eq_true rfl) rfl ?_
        refine k_iincN (g := 1) (a := j) (L2 := [_, _, _, _, _, _, _]) eX12_chooses_158 (Nat.le_of_ble_eq_true rfl) rfl rfl ?_
        refine k_goto 10 eX12_chooses_161 (by decide) ?_
        refine k_forget 5 (L2 := [_, _, _, _, _, _, _]) rfl ?_
        refine k_forget 6 (L2 := [_, _, _, _, _, _, _]) rfl ?_
        have q := ih (j + 1) (by omega)
        rw [chV, sumN_s, ch80, fillN] at q
        subst hT
        rw [ch80, sa_sa, sa_at]
        first | (rw [if_pos c_142] at q; exact q) | (rw [if_neg (by omega)] at q; exact q)
      refine k_aload_n eX12_chooses_145 rfl ?_
      refine GX12_96 eX12_chooses_146 rfl ?_
      refine k_iload eX12_chooses_149 rfl ?_
      refine k_ialdN (j := j) eX12_chooses_151 (ar79 _) (by omega) (Nat.le_of_ble_eq_true rfl) ?_
      refine k_topi ((bW V dn wk r j)) (hb2.2 _ (by omega)) ?_
      refine k_goto 156 eX12_chooses_152 (by decide) ?_
      refine k_iadd eX12_chooses_156 ?_
      refine k_istore_n (L2 := [_, _, _, _, _, _, _]) eX12_chooses_157 (Nat.le_of_ble_eq_true rfl) rfl ?_
      refine k_iincN (g := 1) (a := j) (L2 := [_, _, _, _, _, _, _]) eX12_chooses_158 (Nat.le_of_ble_eq_true rfl) rfl rfl ?_
      refine k_goto 10 eX12_chooses_161 (by decide) ?_
      refine k_forget 5 (L2 := [_, _, _, _, _, _, _]) rfl ?_
      refine k_forget 6 (L2 := [_, _, _, _, _, _, _]) rfl ?_
      have q := ih (j + 1) (by omega)
      rw [chV, sumN_s, ch80, fillN] at q
      subst hT
      rw [ch80, sa_sa, sa_at]
      first | (rw [if_pos c_142] at q; exact q) | (rw [if_neg (by omega)] at q; exact q)
    refine k_aload_n eX12_chooses_122 rfl ?_
    refine GX12_93 eX12_chooses_123 rfl ?_
    refine k_iload eX12_chooses_126 rfl ?_
    refine k_ialdN (j := j) eX12_chooses_128 (ar78 _) (by omega) (Nat.le_of_ble_eq_true rfl) ?_
    refine k_topi (nI (bN V dn wk r j)) (hb2.1 _ (by omega)) ?_
    refine k_goto 133 eX12_chooses_129 (by decide) ?_
    have hcl := chN_le V dn wk r m j
    refine k_topi (nI (chN V dn wk r m j)) (by first | rw [chN, if_pos (by omega)] | rw [chN, if_neg (by omega)]) ?_
    refine k_iastN (j := j) eX12_chooses_133 (ar80 _) (by omega) (Nat.le_of_ble_eq_true rfl) (as80 _ _) ?_
    refine k_iload_n eX12_chooses_134 rfl ?_
    refine k_aload_n eX12_chooses_135 rfl ?_
    refine GX12_99 eX12_chooses_136 rfl ?_
    refine k_iload eX12_chooses_139 rfl ?_
    refine k_ialdN (j := j) eX12_chooses_141 (ar80 _) (by omega) (Nat.le_of_ble_eq_true rfl) ?_
    refine k_topi (nI (chN V dn wk r m j)) (by rw [sa_at, va_a1]) ?_
    refine k_if_leN 155 eX12_chooses_142 (by decide) (by omega) (fun c_142 => ?_) (fun c_142 => ?_)
    · refine k_iconst (v := nI 0) eX12_chooses_155 (by decide) ?_
      refine k_iadd eX12_chooses_156 ?_
      refine k_istore_n (L2 := [_, _, _, _, _, _, _]) eX12_chooses_157 (Nat.le_of_ble_eq_true rfl) rfl ?_
      refine k_iincN (g := 1) (a := j) (L2 := [_, _, _, _, _, _, _]) eX12_chooses_158 (Nat.le_of_ble_eq_true rfl) rfl rfl ?_
      refine k_goto 10 eX12_chooses_161 (by decide) ?_
      refine k_forget 5 (L2 := [_, _, _, _, _, _, _]) rfl ?_
      refine k_forget 6 (L2 := [_, _, _, _, _, _, _]) rfl ?_
      have q := ih (j + 1) (by omega)
      rw [chV, sumN_s, ch80, fillN] at q
      subst hT
      rw [ch80, sa_sa, sa_at]
      first | (rw [if_pos c_142] at q; exact q) | (rw [if_neg (by omega)] at q; exact q)
    refine k_aload_n eX12_chooses_145 rfl ?_
    refine GX12_96 eX12_chooses_146 rfl ?_
    refine k_iload eX12_chooses_149 rfl ?_
    refine k_ialdN (j := j) eX12_chooses_151 (ar79 _) (by omega) (Nat.le_of_ble_eq_true rfl) ?_
    refine k_topi ((bW V dn wk r j)) (hb2.2 _ (by omega)) ?_
    refine k_goto 156 eX12_chooses_152 (by decide) ?_
    refine k_iadd eX12_chooses_156 ?_
    refine k_istore_n (L2 := [_, _, _, _, _, _, _]) eX12_chooses_157 (Nat.le_of_ble_eq_true rfl) rfl ?_
    refine k_iincN (g := 1) (a := j) (L2 := [_, _, _, _, _, _, _]) eX12_chooses_158 (Nat.le_of_ble_eq_true rfl) rfl rfl ?_
    refine k_goto 10 eX12_chooses_161 (by decide) ?_
    refine k_forget 5 (L2 := [_, _, _, _, _, _, _]) rfl ?_
    refine k_forget 6 (L2 := [_, _, _, _, _, _, _]) rfl ?_
    have q := ih (j + 1) (by omega)
    rw [chV, sumN_s, ch80, fillN] at q
    subst hT
    rw [ch80, sa_sa, sa_at]
    first | (rw [if_pos c_142] at q; exact q) | (rw [if_neg (by omega)] at q; exact q)
set_option maxHeartbeats 400000 in
theorem pX12_chooses {S : k_S} {V : k_V} (hV : vM S = V) {dn : Nat} (hdn : S.1 2611 = nI dn) (hcd : CntOk V dn) {wk : Nat} (hwk : S.1 2600 = nI wk) (hwk1 : 1 ≤ wk) (hwk6 : wk ≤ 6) {r m : Nat} (hr : r < 5) (hm : m ≤ 7) : Sp 4 0 0 MX12_chooses [.ref 52, .int (nI r), .int (nI m)] (hp S) (Rx (some (.int (chV V dn wk r m 120))) (fun S' => BstOk V dn wk r S' ∧ (∀ i, i < 120 → S'.2.1 80 i = nI (chN V dn wk r m i)) ∧ Frm [] [78, 79, 80] [] S S')) := by
  refine Sp_of (by decide +kernel) (Nat.le_of_ble_eq_true rfl) ?_
  show AW none MX12_chooses 4 0 0 0 [.ref 52, .int (nI r), .int (nI m), .null, .null, .null, .null] [] (hp S) _
  refine k_aload_n eX12_chooses_0 rfl ?_
  refine k_iload_n eX12_chooses_1 rfl ?_
  refine cVX0 (v := .null) (M' := MX12_findsBest) eX12_chooses_2 mX12_192 wX12_findsBest vX12_findsBest ⟨_, _, _, rfl, rfl, rfl⟩ rfl (pX12_findsBest (S := S) (V := V) (dn := dn) (wk := wk) (r := r) hV hdn hcd hwk hwk1 hwk6 (by omega)) (by decide) (Nat.le_of_ble_eq_true rfl) ?_
  rintro S2 ⟨hb, f2⟩
  refine k_iconst (v := nI 0) eX12_chooses_5 (by decide) ?_
  refine k_istore_n (L2 := [_, _, _, _, _, _, _]) eX12_chooses_6 (Nat.le_of_ble_eq_true rfl) rfl ?_
  refine k_iconst (v := nI 0) eX12_chooses_7 (by decide) ?_
  refine k_istore (L2 := [_, _, _, _, _, _, _]) eX12_chooses_8 (Nat.le_of_ble_eq_true rfl) rfl ?_
  refine k_heap (h2 := hp (ch80 S2 V dn wk r m 0)) (by rw [ch80, fillN, sa_self]) ?_
  refine lX12_chooses (by decide) (S := S2) (m := m) hwk6 hm hb ?_ 120 0 (by omega)
  refine k_iload_n eX12_chooses_164 rfl ?_
  refine k_ireturn eX12_chooses_165 rfl rfl ?_
  exact ⟨rfl, _, rfl, hb, (fun i hi => by rw [ch80, sa_at, fillN_at, if_pos hi]), (f2.wk (by decide) (by decide) (by decide)).sa (by decide) _⟩
def mBst (V : k_V) (dn wk : Nat) (kr r m d : Int32) : Int32 := if pBst kr r m d then (if d = -1 then chV V dn wk (ix r) (ix m) 120 else nI (chN V dn wk (ix r) (ix m) (ix d))) else -2000000000
set_option maxHeartbeats 400000 in
theorem pX12_best {S : k_S} {V : k_V} (hV : vM S = V) {dn : Nat} (hdn : S.1 2611 = nI dn) (hcd : CntOk V dn) {wk : Nat} (hwk : S.1 2600 = nI wk) (hwk1 : 1 ≤ wk) (hwk6 : wk ≤ 6) {rn : Nat} (hrn : S.1 2604 = nI rn) (hrn5 : rn ≤ 5) (r m x : Int32) : Sp 5 0 0 MX12_best [.ref 52, .int (r), .int (m), .int (x)] (hp S) (Rx (some (.int (mBst V dn wk (S.1 2604) r m x))) (fun S' => Frm [] [78, 79, 80] [] S S')) := by
  refine Sp_of (by decide +kernel) (Nat.le_of_ble_eq_true rfl) ?_
  show AW none MX12_best 5 0 0 0 [.ref 52, .int (r), .int (m), .int (x), .null] [] (hp S) _
  refine k_aload_n eX12_best_0 rfl ?_
  refine k_iload_n eX12_best_1 rfl ?_
  refine cV1 (M' := MX12_isRunner) eX12_best_2 mX12_127 wX12_isRunner vX12_isRunner ⟨_, _, _, rfl, rfl, rfl⟩ rfl (pX12_isRunner (S := S) (rn := rn) hrn hrn5 (r)) (by decide) (Nat.le_of_ble_eq_true rfl) ?_
  refine k_ifb_eq 30 eX12_best_5 (by decide) (fun c_5 => ?_) (fun c_5 => ?_)
  · refine k_ldc eX12_best_30 kX12_182 rfl ?_
    refine k_ireturn eX12_best_32 rfl rfl ?_
    exact ⟨by rw [mBst, if_neg (fun q => by first | exact c_5 q.1 | exact c_15 q.2.1 | exact q.2.2.elim c_20 c_27)], S, rfl, Frm.rf S⟩
  refine k_iload_n eX12_best_8 rfl ?_
  refine k_iconst (v := nI 0) eX12_best_9 (by decide) ?_
  refine k_bipush (v := nI 7) eX12_best_10 (by decide) ?_
  refine cS1 (M' := MX12_in) eX12_best_12 mX12_120 wX12_in sX12_in rfl (pX12_in (m) (nI 0) (nI 7)) (by decide) (Nat.le_of_ble_eq_true rfl) ?_
  refine k_ifb_eq 30 eX12_best_15 (by decide) (fun c_15 => ?_) (fun c_15 => ?_)
  · refine k_ldc eX12_best_30 kX12_182 rfl ?_
    refine k_ireturn eX12_best_32 rfl rfl ?_
    exact ⟨by rw [mBst, if_neg (fun q => by first | exact c_5 q.1 | exact c_15 q.2.1 | exact q.2.2.elim c_20 c_27)], S, rfl, Frm.rf S⟩
  refine k_iload_n eX12_best_18 rfl ?_
  refine k_iconst (v := (-1)) eX12_best_19 (by decide) ?_
  refine k_icmp_eq 33 eX12_best_20 (by decide) (fun c_20 => ?_) (fun c_20 => ?_)
  · have hC : pBst (S.1 2604) r m x := ⟨c_5, c_15, by first | exact Or.inl c_20 | exact Or.inr c_27⟩
    obtain ⟨r, hr, rfl⟩ := pW_ex c_5 hrn (by omega)
    obtain ⟨m, hm, rfl⟩ := k_rngle c_15.1 c_15.2 (by decide)
    refine k_aload_n eX12_best_33 rfl ?_
    refine k_iload_n eX12_best_34 rfl ?_
    refine k_iload_n eX12_best_35 rfl ?_
    refine cVX1 (M' := MX12_chooses) eX12_best_36 mX12_196 wX12_chooses vX12_chooses ⟨_, _, _, rfl, rfl, rfl⟩ rfl (pX12_chooses (S := S) (V := V) (dn := dn) (wk := wk) (r := r) (m := m) hV hdn hcd hwk hwk1 hwk6 (by omega) (by omega)) (by decide) (Nat.le_of_ble_eq_true rfl) ?_
    rintro S2 ⟨hb, h80, f2⟩
    refine k_istore (L2 := [_, _, _, _, _]) eX12_best_39 (Nat.le_of_ble_eq_true rfl) rfl ?_
    refine k_iload_n eX12_best_41 rfl ?_
    refine k_if_ge 50 eX12_best_42 (by decide) (fun c_42 => ?_) (fun c_42 => ?_)
    · have hxd : pD x := hC.2.2.resolve_left (fun q => by rw [q] at c_42; exact absurd c_42 (by decide))
      obtain ⟨dd, hdd2, rfl⟩ := pD_ex hxd
      refine k_aload_n eX12_best_50 rfl ?_
      refine GX12_99 eX12_best_51 rfl ?_
      refine k_iload_n eX12_best_54 rfl ?_
      refine k_ialdN (j := dd) eX12_best_55 (ar80 _) (by omega) (Nat.le_of_ble_eq_true rfl) ?_
      refine k_ireturn eX12_best_56 rfl rfl ?_
      exact ⟨by rw [mBst, if_pos hC, if_neg (fun q => by rw [q] at c_42; exact absurd c_42 (by decide)), ix_nI (by omega), ix_nI (by omega), ix_nI (by omega)]; exact congrArg (fun z => some (Value.int z)) (h80 _ (by omega)), S2, rfl, f2⟩
    refine k_iload eX12_best_45 rfl ?_
    refine k_goto 56 eX12_best_47 (by decide) ?_
    refine k_ireturn eX12_best_56 rfl rfl ?_
    have hx1 : x = -1 := hC.2.2.resolve_right (fun q => c_42 q.1)
    exact ⟨by rw [mBst, if_pos hC, if_pos hx1, ix_nI (by omega), ix_nI (by omega)], S2, rfl, f2⟩
  refine k_iload_n eX12_best_23 rfl ?_
  refine cS1 (M' := MX12_isDay) eX12_best_24 mX12_131 wX12_isDay sX12_isDay rfl (pX12_isDay (x)) (by decide) (Nat.le_of_ble_eq_true rfl) ?_
  refine k_ifb_ne 33 eX12_best_27 (by decide) (fun c_27 => ?_) (fun c_27 => ?_)
  · have hC : pBst (S.1 2604) r m x := ⟨c_5, c_15, by first | exact Or.inl c_20 | exact Or.inr c_27⟩
    obtain ⟨r, hr, rfl⟩ := pW_ex c_5 hrn (by omega)
    obtain ⟨m, hm, rfl⟩ := k_rngle c_15.1 c_15.2 (by decide)
    refine k_aload_n eX12_best_33 rfl ?_
    refine k_iload_n eX12_best_34 rfl ?_
    refine k_iload_n eX12_best_35 rfl ?_
    refine cVX1 (M' := MX12_chooses) eX12_best_36 mX12_196 wX12_chooses vX12_chooses ⟨_, _, _, rfl, rfl, rfl⟩ rfl (pX12_chooses (S := S) (V := V) (dn := dn) (wk := wk) (r := r) (m := m) hV hdn hcd hwk hwk1 hwk6 (by omega) (by omega)) (by decide) (Nat.le_of_ble_eq_true rfl) ?_
    rintro S2 ⟨hb, h80, f2⟩
    refine k_istore (L2 := [_, _, _, _, _]) eX12_best_39 (Nat.le_of_ble_eq_true rfl) rfl ?_
    refine k_iload_n eX12_best_41 rfl ?_
    refine k_if_ge 50 eX12_best_42 (by decide) (fun c_42 => ?_) (fun c_42 => ?_)
    · have hxd : pD x := hC.2.2.resolve_left (fun q => by rw [q] at c_42; exact absurd c_42 (by decide))
      obtain ⟨dd, hdd2, rfl⟩ := pD_ex hxd
      refine k_aload_n eX12_best_50 rfl ?_
      refine GX12_99 eX12_best_51 rfl ?_
      refine k_iload_n eX12_best_54 rfl ?_
      refine k_ialdN (j := dd) eX12_best_55 (ar80 _) (by omega) (Nat.le_of_ble_eq_true rfl) ?_
      refine k_ireturn eX12_best_56 rfl rfl ?_
      exact ⟨by rw [mBst, if_pos hC, if_neg (fun q => by rw [q] at c_42; exact absurd c_42 (by decide)), ix_nI (by omega), ix_nI (by omega), ix_nI (by omega)]; exact congrArg (fun z => some (Value.int z)) (h80 _ (by omega)), S2, rfl, f2⟩
    refine k_iload eX12_best_45 rfl ?_
    refine k_goto 56 eX12_best_47 (by decide) ?_
    refine k_ireturn eX12_best_56 rfl rfl ?_
    have hx1 : x = -1 := hC.2.2.resolve_right (fun q => c_42 q.1)
    exact ⟨by rw [mBst, if_pos hC, if_pos hx1, ix_nI (by omega), ix_nI (by omega)], S2, rfl, f2⟩
  refine k_ldc eX12_best_30 kX12_182 rfl ?_
  refine k_ireturn eX12_best_32 rfl rfl ?_
  exact ⟨by rw [mBst, if_neg (fun q => by first | exact c_5 q.1 | exact c_15 q.2.1 | exact q.2.2.elim c_20 c_27)], S, rfl, Frm.rf S⟩
theorem lX12_pays {d : Nat} (hdd : 0 ≤ d) {S : k_S} {V : k_V} {dn wk r : Nat} (hwk6 : wk ≤ 6) (hr : r < 5) (hb : BstOk V dn wk r S) : ∀ z, z ≤ 120 → AW none MX12_pays d 0 0 18 [.ref 52, .int (nI r), .int (nI z)] [] (hp S) (Rt (some (.int (nI (pyN V dn wk r z)))) (hp S)) := by
  intro z
  induction z with
  | zero =>
    intro hz
    refine k_iload_n eX12_pays_18 rfl ?_
    refine k_if_leN 39 eX12_pays_19 (by decide) (by omega) (fun c_19 => ?_) (fun c_19 => by exfalso; omega)
    refine k_iload_n eX12_pays_39 rfl ?_
    refine k_ireturn eX12_pays_40 rfl rfl ?_
    exact ⟨rfl, rfl⟩
  | succ z ih =>
    intro hz
    refine k_iload_n eX12_pays_18 rfl ?_
    refine k_if_leN 39 eX12_pays_19 (by decide) (by omega) (fun c_19 => by exfalso; omega) (fun c_19 => ?_)
    have hbl := bN_le V dn wk r z
    refine k_aload_n eX12_pays_22 rfl ?_
    refine GX12_93 eX12_pays_23 rfl ?_
    refine k_iload_n eX12_pays_26 rfl ?_
    refine k_iconst (v := nI 1) eX12_pays_27 (by decide) ?_
    refine k_isubN eX12_pays_28 (by omega) ?_
    refine k_ialdN (j := ((z + 1) - 1)) eX12_pays_29 (ar78 _) (by omega) (Nat.le_of_ble_eq_true rfl) ?_
    refine k_topi (nI (bN V dn wk r z)) (hb.1 z (by omega)) ?_
    refine k_if_neN 39 eX12_pays_30 (by decide) (by omega) (fun c_30 => ?_) (fun c_30 => ?_)
    · refine k_iload_n eX12_pays_39 rfl ?_
      refine k_ireturn eX12_pays_40 rfl rfl ?_
      exact ⟨by rw [show pyN V dn wk r (z + 1) = z + 1 from if_neg c_30], rfl⟩
    refine k_iinc (v := nI z) (L2 := [_, _, _]) eX12_pays_33 (Nat.le_of_ble_eq_true rfl) rfl (dec1 (Nat.succ_pos z)) rfl ?_
    refine k_goto 18 eX12_pays_36 (by decide) ?_
    rw [show pyN V dn wk r (z + 1) = pyN V dn wk r z from if_pos c_30]
    exact ih (by omega)
set_option maxHeartbeats 400000 in
theorem pX12_pays {S : k_S} {V : k_V} (hV : vM S = V) {dn : Nat} (hdn : S.1 2611 = nI dn) (hcd : CntOk V dn) {wk : Nat} (hwk : S.1 2600 = nI wk) (hwk1 : 1 ≤ wk) (hwk6 : wk ≤ 6) {rn : Nat} (hrn : S.1 2604 = nI rn) (hrn5 : rn ≤ 5) (x : Int32) : Sp 4 0 0 MX12_pays [.ref 52, .int (x)] (hp S) (Rx (some (.int (aPay V dn wk (S.1 2604) x))) (fun S' => Frm [] [78, 79, 80] [] S S')) := by
  refine Sp_of (by decide +kernel) (Nat.le_of_ble_eq_true rfl) ?_
  show AW none MX12_pays 4 0 0 0 [.ref 52, .int (x), .null] [] (hp S) _
  refine k_aload_n eX12_pays_0 rfl ?_
  refine k_iload_n eX12_pays_1 rfl ?_
  refine cV1 (M' := MX12_isRunner) eX12_pays_2 mX12_127 wX12_isRunner vX12_isRunner ⟨_, _, _, rfl, rfl, rfl⟩ rfl (pX12_isRunner (S := S) (rn := rn) hrn hrn5 (x)) (by decide) (Nat.le_of_ble_eq_true rfl) ?_
  refine k_ifb_ne 10 eX12_pays_5 (by decide) (fun c_5 => ?_) (fun c_5 => ?_)
  · obtain ⟨r, hr, rfl⟩ := pW_ex c_5 hrn (by omega)
    refine k_aload_n eX12_pays_10 rfl ?_
    refine k_iload_n eX12_pays_11 rfl ?_
    refine cVX0 (v := .null) (M' := MX12_findsBest) eX12_pays_12 mX12_192 wX12_findsBest vX12_findsBest ⟨_, _, _, rfl, rfl, rfl⟩ rfl (pX12_findsBest (S := S) (V := V) (dn := dn) (wk := wk) (r := r) hV hdn hcd hwk hwk1 hwk6 (by omega)) (by decide) (Nat.le_of_ble_eq_true rfl) ?_
    rintro S2 ⟨hb, f2⟩
    refine k_bipush (v := nI 120) eX12_pays_15 (by decide) ?_
    refine k_istore_n (L2 := [_, _, _]) eX12_pays_17 (Nat.le_of_ble_eq_true rfl) rfl ?_
    refine AW.mono (lX12_pays (by decide) (S := S2) hwk6 (r := r) (by omega) hb 120 (by omega)) ?_
    rintro rr hh ⟨e1, e2⟩
    exact ⟨by rw [e1, aPay, if_pos c_5, ix_nI (by omega)], S2, e2, f2.wk (by decide) (by decide) (by decide)⟩
  refine k_iconst (v := (-1)) eX12_pays_8 (by decide) ?_
  refine k_ireturn eX12_pays_9 rfl rfl ?_
  exact ⟨by rw [aPay, if_neg c_5], S, rfl, Frm.rf S⟩
set_option maxHeartbeats 400000 in
theorem lX12_lines {d : Nat} {Po : Option Value → k_H → Prop} (hdd : 3 ≤ d) {S : k_S} {V : k_V} (hV : vM S = V) {dn : Nat} (hdn : S.1 2611 = nI dn) (hcd : CntOk V dn) {u z : Nat} (hu : u < 5) (hz31 : z < 2 ^ 31) (hzw : z / 100 < 6) (hl0 : 0 < lsN V dn) (hl120 : lsN V dn ≤ 120) (w : Int32) (kx : AW none MX12_lines d 0 0 127 [.ref 52, .int (nI u), .int (nI z), .int (w), .int (nI (lsN V dn - 1)), .int ((lnS V dn u (z / 100) ((lsN V dn - z % 100)))), .int (nI ((lsN V dn - z % 100)))] [] (hp S) Po) : ∀ (n j : Nat), j + n = (lsN V dn - z % 100) → AW none MX12_lines d 0 0 55 [.ref 52, .int (nI u), .int (nI z), .int (w), .int (nI (lsN V dn - 1)), .int ((lnS V dn u (z / 100) j)), .int (nI j)] [] (hp S) Po := by
  intro n
  induction n with
  | zero =>
    intro j hj
    rw [show j = (lsN V dn - z % 100) by omega]
    refine k_iload eX12_lines_55 rfl ?_
    refine k_bipush (v := nI 120) eX12_lines_57 (by decide) ?_
    refine k_icmp_geN 127 eX12_lines_59 (by decide) (by omega) (by omega) (fun c_59 => ?_) (fun c_59 => ?_)
    · exact kx
    refine k_iload eX12_lines_62 rfl ?_
    refine k_iload eX12_lines_64 rfl ?_
    refine k_iload_n eX12_lines_66 rfl ?_
    refine k_bipush (v := nI 100) eX12_lines_67 (by decide) ?_
    refine k_iremN eX12_lines_69 (by omega) (by omega) (by omega) ?_
    refine k_isub eX12_lines_70 ?_
    refine k_icmp_gt 127 eX12_lines_71 (by decide) (fun c_71 => ?_) (fun c_71 => by exact absurd ((sub_ltN (by omega) (by omega) (by omega)).mpr (by omega)) c_71)
    exact kx
  | succ n ih =>
    intro j hj
    refine k_iload eX12_lines_55 rfl ?_
    refine k_bipush (v := nI 120) eX12_lines_57 (by decide) ?_
    refine k_icmp_geN 127 eX12_lines_59 (by decide) (by omega) (by omega) (fun c_59 => by exfalso; omega) (fun c_59 => ?_)
    refine k_iload eX12_lines_62 rfl ?_
    refine k_iload eX12_lines_64 rfl ?_
    refine k_iload_n eX12_lines_66 rfl ?_
    refine k_bipush (v := nI 100) eX12_lines_67 (by decide) ?_
    refine k_iremN eX12_lines_69 (by omega) (by omega) (by omega) ?_
    refine k_isub eX12_lines_70 ?_
    refine k_icmp_gt 127 eX12_lines_71 (by decide) (fun c_71 => by exact absurd ((sub_ltN (by omega) (by omega) (by omega)).mp c_71) (by omega)) (fun c_71 => ?_)
    refine k_iload eX12_lines_74 rfl ?_
    refine k_iload eX12_lines_76 rfl ?_
    refine k_bipush (v := nI 7) eX12_lines_78 (by decide) ?_
    refine k_iremN eX12_lines_80 (by omega) (by omega) (by omega) ?_
    refine k_iconst (v := nI 1) eX12_lines_81 (by decide) ?_
    refine k_icmp_eqN 103 eX12_lines_82 (by decide) (by omega) (by omega) (fun c_82 => ?_) (fun c_82 => ?_)
    · refine k_aload_n eX12_lines_103 rfl ?_
      refine k_iload_n eX12_lines_104 rfl ?_
      refine k_iload eX12_lines_105 rfl ?_
      refine k_iload_n eX12_lines_107 rfl ?_
      refine k_bipush (v := nI 100) eX12_lines_108 (by decide) ?_
      refine k_idivN eX12_lines_110 (by omega) (by omega) (by omega) ?_
      refine cV1 (M' := MX12_worthOf) eX12_lines_111 mX12_186 wX12_worthOf vX12_worthOf ⟨_, _, _, rfl, rfl, rfl⟩ rfl (pX12_worthOf (S := S) (V := V) (dn := dn) (r := u) (w := (z / 100)) (dd := j) hV hdn hcd (by omega) (by omega) (by omega)) (by omega) (Nat.le_of_ble_eq_true rfl) ?_
      refine k_goto 118 eX12_lines_114 (by decide) ?_
      refine k_iadd eX12_lines_118 ?_
      refine k_istore (L2 := [_, _, _, _, _, _, _]) eX12_lines_119 (Nat.le_of_ble_eq_true rfl) rfl ?_
      refine k_iincN (g := 1) (a := j) (L2 := [_, _, _, _, _, _, _]) eX12_lines_121 (Nat.le_of_ble_eq_true rfl) rfl rfl ?_
      refine k_goto 55 eX12_lines_124 (by decide) ?_
      have q := ih (j + 1) (by omega)
      rw [lnS] at q
      first | (rw [if_neg (by omega), ← addz (lnS V dn u (z / 100) j)] at q; exact q) | (rw [if_pos (by omega)] at q; exact q)
    refine k_iload eX12_lines_85 rfl ?_
    refine k_bipush (v := nI 7) eX12_lines_87 (by decide) ?_
    refine k_iremN eX12_lines_89 (by omega) (by omega) (by omega) ?_
    refine k_iconst (v := nI 3) eX12_lines_90 (by decide) ?_
    refine k_icmp_eqN 103 eX12_lines_91 (by decide) (by omega) (by omega) (fun c_91 => ?_) (fun c_91 => ?_)
    · refine k_aload_n eX12_lines_103 rfl ?_
      refine k_iload_n eX12_lines_104 rfl ?_
      refine k_iload eX12_lines_105 rfl ?_
      refine k_iload_n eX12_lines_107 rfl ?_
      refine k_bipush (v := nI 100) eX12_lines_108 (by decide) ?_
      refine k_idivN eX12_lines_110 (by omega) (by omega) (by omega) ?_
      refine cV1 (M' := MX12_worthOf) eX12_lines_111 mX12_186 wX12_worthOf vX12_worthOf ⟨_, _, _, rfl, rfl, rfl⟩ rfl (pX12_worthOf (S := S) (V := V) (dn := dn) (r := u) (w := (z / 100)) (dd := j) hV hdn hcd (by omega) (by omega) (by omega)) (by omega) (Nat.le_of_ble_eq_true rfl) ?_
      refine k_goto 118 eX12_lines_114 (by decide) ?_
      refine k_iadd eX12_lines_118 ?_
      refine k_istore (L2 := [_, _, _, _, _, _, _]) eX12_lines_119 (Nat.le_of_ble_eq_true rfl) rfl ?_
      refine k_iincN (g := 1) (a := j) (L2 := [_, _, _, _, _, _, _]) eX12_lines_121 (Nat.le_of_ble_eq_true rfl) rfl rfl ?_
      refine k_goto 55 eX12_lines_124 (by decide) ?_
      have q := ih (j + 1) (by omega)
      rw [lnS] at q
      first | (rw [if_neg (by omega), ← addz (lnS V dn u (z / 100) j)] at q; exact q) | (rw [if_pos (by omega)] at q; exact q)
    refine k_iload eX12_lines_94 rfl ?_
    refine k_bipush (v := nI 7) eX12_lines_96 (by decide) ?_
    refine k_iremN eX12_lines_98 (by omega) (by omega) (by omega) ?_
    refine k_iconst (v := nI 5) eX12_lines_99 (by decide) ?_
    refine k_icmp_neN 117 eX12_lines_100 (by decide) (by omega) (by omega) (fun c_100 => ?_) (fun c_100 => ?_)
    · refine k_iconst (v := nI 0) eX12_lines_117 (by decide) ?_
      refine k_iadd eX12_lines_118 ?_
      refine k_istore (L2 := [_, _, _, _, _, _, _]) eX12_lines_119 (Nat.le_of_ble_eq_true rfl) rfl ?_
      refine k_iincN (g := 1) (a := j) (L2 := [_, _, _, _, _, _, _]) eX12_lines_121 (Nat.le_of_ble_eq_true rfl) rfl rfl ?_
      refine k_goto 55 eX12_lines_124 (by decide) ?_
      have q := ih (j + 1) (by omega)
      rw [lnS] at q
      first | (rw [if_neg (by omega), ← addz (lnS V dn u (z / 100) j)] at q; exact q) | (rw [if_pos (by omega)] at q; exact q)
    refine k_aload_n eX12_lines_103 rfl ?_
    refine k_iload_n eX12_lines_104 rfl ?_
    refine k_iload eX12_lines_105 rfl ?_
    refine k_iload_n eX12_lines_107 rfl ?_
    refine k_bipush (v := nI 100) eX12_lines_108 (by decide) ?_
    refine k_idivN eX12_lines_110 (by omega) (by omega) (by omega) ?_
    refine cV1 (M' := MX12_worthOf) eX12_lines_111 mX12_186 wX12_worthOf vX12_worthOf ⟨_, _, _, rfl, rfl, rfl⟩ rfl (pX12_worthOf (S := S) (V := V) (dn := dn) (r := u) (w := (z / 100)) (dd := j) hV hdn hcd (by omega) (by omega) (by omega)) (by omega) (Nat.le_of_ble_eq_true rfl) ?_
    refine k_goto 118 eX12_lines_114 (by decide) ?_
    refine k_iadd eX12_lines_118 ?_
    refine k_istore (L2 := [_, _, _, _, _, _, _]) eX12_lines_119 (Nat.le_of_ble_eq_true rfl) rfl ?_
    refine k_iincN (g := 1) (a := j) (L2 := [_, _, _, _, _, _, _]) eX12_lines_121 (Nat.le_of_ble_eq_true rfl) rfl rfl ?_
    refine k_goto 55 eX12_lines_124 (by decide) ?_
    have q := ih (j + 1) (by omega)
    rw [lnS] at q
    first | (rw [if_neg (by omega), ← addz (lnS V dn u (z / 100) j)] at q; exact q) | (rw [if_pos (by omega)] at q; exact q)
def mLin (V : k_V) (dn wk : Nat) (kr kw r x w : Int32) : Int32 := if pLin kr kw r x w then (if lsN V dn = 0 then -2 else if w = 0 then lnV V dn r x else chV V dn wk (ix r) 3 120 - lnV V dn r x) else -2000000000
set_option maxHeartbeats 400000 in
theorem pX12_lines {S : k_S} {V : k_V} (hV : vM S = V) {dn : Nat} (hdn : S.1 2611 = nI dn) (hcd : CntOk V dn) {wk : Nat} (hwk : S.1 2600 = nI wk) (hwk1 : 1 ≤ wk) (hwk6 : wk ≤ 6) {rn : Nat} (hrn : S.1 2604 = nI rn) (hrn5 : rn ≤ 5) (r x w : Int32) : Sp 5 0 0 MX12_lines [.ref 52, .int (r), .int (x), .int (w)] (hp S) (Rx (some (.int (mLin V dn wk (S.1 2604) (S.1 2600) r x w))) (fun S' => Frm [] [78, 79, 80] [] S S')) := by
  refine Sp_of (by decide +kernel) (Nat.le_of_ble_eq_true rfl) ?_
  show AW none MX12_lines 5 0 0 0 [.ref 52, .int (r), .int (x), .int (w), .null, .null, .null] [] (hp S) _
  refine k_aload_n eX12_lines_0 rfl ?_
  refine k_iload_n eX12_lines_1 rfl ?_
  refine cV1 (M' := MX12_isRunner) eX12_lines_2 mX12_127 wX12_isRunner vX12_isRunner ⟨_, _, _, rfl, rfl, rfl⟩ rfl (pX12_isRunner (S := S) (rn := rn) hrn hrn5 (r)) (by decide) (Nat.le_of_ble_eq_true rfl) ?_
  refine k_ifb_eq 32 eX12_lines_5 (by decide) (fun c_5 => ?_) (fun c_5 => ?_)
  · refine k_ldc eX12_lines_32 kX12_182 rfl ?_
    refine k_ireturn eX12_lines_34 rfl rfl ?_
    exact ⟨by rw [mLin, if_neg (fun q => by first | exact c_5 q.1 | exact q.2.1 c_9 | exact c_20 q.2.2.1 | exact c_29 q.2.2.2)], S, rfl, Frm.rf S⟩
  refine k_iload_n eX12_lines_8 rfl ?_
  refine k_if_lt 32 eX12_lines_9 (by decide) (fun c_9 => ?_) (fun c_9 => ?_)
  · refine k_ldc eX12_lines_32 kX12_182 rfl ?_
    refine k_ireturn eX12_lines_34 rfl rfl ?_
    exact ⟨by rw [mLin, if_neg (fun q => by first | exact c_5 q.1 | exact q.2.1 c_9 | exact c_20 q.2.2.1 | exact c_29 q.2.2.2)], S, rfl, Frm.rf S⟩
  refine k_aload_n eX12_lines_12 rfl ?_
  refine k_iload_n eX12_lines_13 rfl ?_
  refine k_bipush (v := nI 100) eX12_lines_14 (by decide) ?_
  refine k_idiv eX12_lines_16 (by decide) ?_
  refine cV1 (M' := MX12_isWork) eX12_lines_17 mX12_153 wX12_isWork vX12_isWork ⟨_, _, _, rfl, rfl, rfl⟩ rfl (pX12_isWork (S := S) (wk := wk) hwk hwk6 ((x / nI 100))) (by decide) (Nat.le_of_ble_eq_true rfl) ?_
  refine k_ifb_eq 32 eX12_lines_20 (by decide) (fun c_20 => ?_) (fun c_20 => ?_)
  · refine k_ldc eX12_lines_32 kX12_182 rfl ?_
    refine k_ireturn eX12_lines_34 rfl rfl ?_
    exact ⟨by rw [mLin, if_neg (fun q => by first | exact c_5 q.1 | exact q.2.1 c_9 | exact c_20 q.2.2.1 | exact c_29 q.2.2.2)], S, rfl, Frm.rf S⟩
  refine k_iload_n eX12_lines_23 rfl ?_
  refine k_iconst (v := nI 0) eX12_lines_24 (by decide) ?_
  refine k_iconst (v := nI 1) eX12_lines_25 (by decide) ?_
  refine cS1 (M' := MX12_in) eX12_lines_26 mX12_120 wX12_in sX12_in rfl (pX12_in (w) (nI 0) (nI 1)) (by decide) (Nat.le_of_ble_eq_true rfl) ?_
  refine k_ifb_ne 35 eX12_lines_29 (by decide) (fun c_29 => ?_) (fun c_29 => ?_)
  · have hC : pLin (S.1 2604) (S.1 2600) r x w := ⟨c_5, c_9, c_20, c_29⟩
    obtain ⟨u, z, hu, hz31, rfl, rfl, hzw⟩ := pLin_ex hC hrn hrn5 hwk hwk6
    have hl120 := lsN_le hcd dn (Nat.le_refl _)
    have eL : lnV V dn (nI u) (nI z) = lnS V dn u (z / 100) (lsN V dn - z % 100) := lnV_N (by omega) hz31
    refine k_aload_n eX12_lines_35 rfl ?_
    refine cV1 (M' := MX12_lastCount) eX12_lines_36 mX12_199 wX12_lastCount vX12_lastCount ⟨_, _, _, rfl, rfl, rfl⟩ rfl (pX12_lastCount (S := S) (V := V) (dn := dn) hV hdn hcd) (by decide) (Nat.le_of_ble_eq_true rfl) ?_
    refine k_istore (L2 := [_, _, _, _, _, _, _]) eX12_lines_39 (Nat.le_of_ble_eq_true rfl) rfl ?_
    refine k_iload eX12_lines_41 rfl ?_
    refine k_if_ge 49 eX12_lines_43 (by decide) (fun c_43 => ?_) (fun c_43 => ?_)
    · have hl0 : 0 < lsN V dn := (lst_neg hcd).mp c_43
      refine k_loc (L2 := [_, _, _, _, .int (nI (lsN V dn - 1)), _, _]) (by rw [lstD_at hcd hl0]) ?_
      refine k_iconst (v := nI 0) eX12_lines_49 (by decide) ?_
      refine k_istore (L2 := [_, _, _, _, _, _, _]) eX12_lines_50 (Nat.le_of_ble_eq_true rfl) rfl ?_
      refine k_iconst (v := nI 0) eX12_lines_52 (by decide) ?_
      refine k_istore (L2 := [_, _, _, _, _, _, _]) eX12_lines_53 (Nat.le_of_ble_eq_true rfl) rfl ?_
      refine lX12_lines (by decide) hV hdn hcd (u := u) (z := z) (by omega) hz31 (by omega) hl0 hl120 w ?_ (lsN V dn - z % 100) 0 (by omega)
      refine k_iload_n eX12_lines_127 rfl ?_
      refine k_if_ne 136 eX12_lines_128 (by decide) (fun c_128 => ?_) (fun c_128 => ?_)
      · refine k_aload_n eX12_lines_136 rfl ?_
        refine k_iload_n eX12_lines_137 rfl ?_
        refine k_iconst (v := nI 3) eX12_lines_138 (by decide) ?_
        refine cVX1 (M' := MX12_chooses) eX12_lines_139 mX12_196 wX12_chooses vX12_chooses ⟨_, _, _, rfl, rfl, rfl⟩ rfl (pX12_chooses (S := S) (V := V) (dn := dn) (wk := wk) (r := u) (m := 3) hV hdn hcd hwk hwk1 hwk6 (by omega) (by omega)) (by decide) (Nat.le_of_ble_eq_true rfl) ?_
        rintro S2 ⟨hb, h80, f2⟩
        refine k_iload eX12_lines_142 rfl ?_
        refine k_isub eX12_lines_144 ?_
        refine k_ireturn eX12_lines_145 rfl rfl ?_
        exact ⟨by rw [mLin, if_pos hC, if_neg (by omega), if_neg c_128, eL, ix_nI (by omega)], S2, rfl, f2⟩
      refine k_iload eX12_lines_131 rfl ?_
      refine k_goto 145 eX12_lines_133 (by decide) ?_
      refine k_ireturn eX12_lines_145 rfl rfl ?_
      exact ⟨by rw [mLin, if_pos hC, if_neg (by omega), if_pos c_128, eL], S, rfl, Frm.rf S⟩
    refine k_bipush (v := (-2)) eX12_lines_46 (by decide) ?_
    refine k_ireturn eX12_lines_48 rfl rfl ?_
    have hl0 : lsN V dn = 0 := Nat.le_zero.mp (Nat.not_lt.mp (fun q => c_43 ((lst_neg hcd).mpr q)))
    exact ⟨by rw [mLin, if_pos hC, if_pos hl0], S, rfl, Frm.rf S⟩
  refine k_ldc eX12_lines_32 kX12_182 rfl ?_
  refine k_ireturn eX12_lines_34 rfl rfl ?_
  exact ⟨by rw [mLin, if_neg (fun q => by first | exact c_5 q.1 | exact q.2.1 c_9 | exact c_20 q.2.2.1 | exact c_29 q.2.2.2)], S, rfl, Frm.rf S⟩
