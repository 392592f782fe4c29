def wkAdd (S : k_S) (wk : Nat) (t s l : Int32) : k_S := si (sa (sa (sa S 17 (va_up (S.2.1 17) wk t)) 18 (va_up (S.2.1 18) wk s)) 19 (va_up (S.2.1 19) wk l)) 803 (nI (wk + 1))
set_option maxHeartbeats 400000 in
theorem pX10_add {S : k_S} {wk : Nat} (hwk : S.1 803 = nI wk) (hlt : wk < 6) (t s l : Int32) : Sp 1 0 0 MX10_add [.ref 16, .int (t), .int (s), .int (l)] (hp S) (Rt (some (.int (nI wk))) (hp (wkAdd S wk t s l))) := by
  refine Sp_of (by decide +kernel) (Nat.le_of_ble_eq_true rfl) ?_
  show AW none MX10_add 1 0 0 0 [.ref 16, .int (t), .int (s), .int (l)] [] (hp S) _
  refine k_aload_n eX10_add_0 rfl ?_
  refine GX10_21 eX10_add_1 rfl ?_
  refine k_topi (nI wk) hwk ?_
  refine k_bipush (v := nI 6) eX10_add_4 (by decide) ?_
  refine k_icmp_ltN 12 eX10_add_6 (by decide) (by omega) (by omega) (fun c_6 => ?_) (fun c_6 => by exfalso; omega)
  refine k_aload_n eX10_add_12 rfl ?_
  refine GX10_9 eX10_add_13 rfl ?_
  refine k_aload_n eX10_add_16 rfl ?_
  refine GX10_21 eX10_add_17 rfl ?_
  refine k_topi (nI wk) hwk ?_
  refine k_iload_n eX10_add_20 rfl ?_
  refine cN0 (M' := MX11_write) eX10_add_21 mX10_25 wX11_write sX11_write rfl (pX11_writeN (j := wk) (v := t) (ar17 _) (by omega) (by decide) (as17 _ _)) (by decide) (Nat.le_of_ble_eq_true rfl) ?_
  refine k_aload_n eX10_add_24 rfl ?_
  refine GX10_15 eX10_add_25 rfl ?_
  refine k_aload_n eX10_add_28 rfl ?_
  refine GX10_21 eX10_add_29 rfl ?_
  refine k_topi (nI wk) hwk ?_
  refine k_iload_n eX10_add_32 rfl ?_
  refine cN0 (M' := MX11_write) eX10_add_33 mX10_25 wX11_write sX11_write rfl (pX11_writeN (j := wk) (v := s) (ar18 _) (by omega) (by decide) (as18 _ _)) (by decide) (Nat.le_of_ble_eq_true rfl) ?_
  refine k_aload_n eX10_add_36 rfl ?_
  refine GX10_18 eX10_add_37 rfl ?_
  refine k_aload_n eX10_add_40 rfl ?_
  refine GX10_21 eX10_add_41 rfl ?_
  refine k_topi (nI wk) hwk ?_
  refine k_iload_n eX10_add_44 rfl ?_
  refine cN0 (M' := MX11_write) eX10_add_45 mX10_25 wX11_write sX11_write rfl (pX11_writeN (j := wk) (v := l) (ar19 _) (by omega) (by decide) (as19 _ _)) (by decide) (Nat.le_of_ble_eq_true rfl) ?_
  refine k_aload_n eX10_add_48 rfl ?_
  refine k_dup eX10_add_49 rfl ?_
  refine GX10_21 eX10_add_50 rfl ?_
  refine k_topi (nI wk) hwk ?_
  refine k_iconst (v := nI 1) eX10_add_53 (by decide) ?_
  refine k_iaddN eX10_add_54 ?_
  refine PX10_21 eX10_add_55 rfl ?_
  refine k_aload_n eX10_add_58 rfl ?_
  refine GX10_21 eX10_add_59 rfl ?_
  refine k_topi (nI (wk + 1)) rfl ?_
  refine k_iconst (v := nI 1) eX10_add_62 (by decide) ?_
  refine k_isubN eX10_add_63 (by omega) ?_
  refine k_ireturn eX10_add_64 rfl rfl ?_
  exact ⟨rfl, rfl⟩
set_option maxHeartbeats 400000 in
theorem pX10_addF {S : k_S} {wk : Nat} (hwk : S.1 803 = nI wk) (hlt : wk = 6) (t s l : Int32) : Sp 0 0 0 MX10_add [.ref 16, .int (t), .int (s), .int (l)] (hp S) (Rt (some (.int (-3))) (hp S)) := by
  refine Sp_of (by decide +kernel) (Nat.le_of_ble_eq_true rfl) ?_
  show AW none MX10_add 0 0 0 0 [.ref 16, .int (t), .int (s), .int (l)] [] (hp S) _
  refine k_aload_n eX10_add_0 rfl ?_
  refine GX10_21 eX10_add_1 rfl ?_
  refine k_topi (nI wk) hwk ?_
  refine k_bipush (v := nI 6) eX10_add_4 (by decide) ?_
  refine k_icmp_ltN 12 eX10_add_6 (by decide) (by omega) (by omega) (fun c_6 => by exfalso; omega) (fun c_6 => ?_)
  refine k_bipush (v := (-3)) eX10_add_9 (by decide) ?_
  refine k_ireturn eX10_add_11 rfl rfl ?_
  exact ⟨rfl, rfl⟩
def lft (g : Int32) : Nat → Int32
  | 0 => nI 1000
  | k + 1 => lft g k * (nI 1000 - g) / nI 1000
def fillO (g : Int32) (o : Nat) (f : Nat → Int32) : Nat → Nat → Int32
  | 0 => f
  | n + 1 => va_up (fillO g o f n) (o + n) (lft g n)
set_option maxHeartbeats 400000 in
theorem lX8_fillLeft22 {d : Nat} {Po : Option Value → k_H → Prop} (hdd : 1 ≤ d) {S : k_S} {rn : Nat} (hrn : S.1 1003 = nI rn) (hrn5 : rn < 5) (g : Int32) (kx : AW none MX8_fillLeft d 0 0 47 [.ref 20, .ref 22, .int (g), .int (lft g 120), .int (nI 120)] [] (hp (sa S 22 (fillO g (rn * 120) (S.2.1 22) 120))) Po) : ∀ (n j : Nat), j + n = 120 → AW none MX8_fillLeft d 0 0 7 [.ref 20, .ref 22, .int (g), .int (lft g j), .int (nI j)] [] (hp (sa S 22 (fillO g (rn * 120) (S.2.1 22) j))) Po := by
  intro n
  induction n with
  | zero =>
    intro j hj
    rw [show j = 120 by omega]
    refine k_iload eX8_fillLeft_7 rfl ?_
    refine k_bipush (v := nI 120) eX8_fillLeft_9 (by decide) ?_
    refine k_icmp_geN 47 eX8_fillLeft_11 (by decide) (by omega) (by omega) (fun c_11 => ?_) (fun c_11 => by exfalso; omega)
    exact kx
  | succ n ih =>
    intro j hj
    refine k_iload eX8_fillLeft_7 rfl ?_
    refine k_bipush (v := nI 120) eX8_fillLeft_9 (by decide) ?_
    refine k_icmp_geN 47 eX8_fillLeft_11 (by decide) (by omega) (by omega) (fun c_11 => by exfalso; omega) (fun c_11 => ?_)
    refine k_aload_n eX8_fillLeft_14 rfl ?_
    refine k_aload_n eX8_fillLeft_15 rfl ?_
    refine GX8_21 eX8_fillLeft_16 rfl ?_
    refine k_topi (nI rn) hrn ?_
    refine k_bipush (v := nI 120) eX8_fillLeft_19 (by decide) ?_
    refine k_imulN eX8_fillLeft_21 ?_
    refine k_iload eX8_fillLeft_22 rfl ?_
    refine k_iaddN eX8_fillLeft_24 ?_
    refine k_iload_n eX8_fillLeft_25 rfl ?_
    refine cN0 (M' := MX11_write) eX8_fillLeft_26 mX8_25 wX11_write sX11_write rfl (pX11_writeN (j := ((rn * 120) + j)) (v := lft g j) (ar22 _) (by omega) (by decide) (as22 _ _)) (by omega) (Nat.le_of_ble_eq_true rfl) ?_
    refine k_iload_n eX8_fillLeft_29 rfl ?_
    refine k_sipush (v := nI 1000) eX8_fillLeft_30 (by decide) ?_
    refine k_iload_n eX8_fillLeft_33 rfl ?_
    refine k_isub eX8_fillLeft_34 ?_
    refine k_imul eX8_fillLeft_35 ?_
    refine k_sipush (v := nI 1000) eX8_fillLeft_36 (by decide) ?_
    refine k_idiv eX8_fillLeft_39 (by decide) ?_
    refine k_istore_n (L2 := [_, _, _, _, _]) eX8_fillLeft_40 (Nat.le_of_ble_eq_true rfl) rfl ?_
    refine k_iincN (g := 1) (a := j) (L2 := [_, _, _, _, _]) eX8_fillLeft_41 (Nat.le_of_ble_eq_true rfl) rfl rfl ?_
    refine k_goto 7 eX8_fillLeft_44 (by decide) ?_
    have q := ih (j + 1) (by omega)
    rw [fillO, lft] at q
    rw [sa_sa, sa_at]
    exact q
set_option maxHeartbeats 400000 in
theorem pX8_fillLeft22 {S : k_S} {rn : Nat} (hrn : S.1 1003 = nI rn) (hrn5 : rn < 5) (g : Int32) : Sp 1 0 0 MX8_fillLeft [.ref 20, .ref 22, .int (g)] (hp S) (Rt (none) (hp (sa S 22 (fillO g (rn * 120) (S.2.1 22) 120)))) := by
  refine Sp_of (by decide +kernel) (Nat.le_of_ble_eq_true rfl) ?_
  show AW none MX8_fillLeft 1 0 0 0 [.ref 20, .ref 22, .int (g), .null, .null] [] (hp S) _
  refine k_sipush (v := nI 1000) eX8_fillLeft_0 (by decide) ?_
  refine k_istore_n (L2 := [_, _, _, _, _]) eX8_fillLeft_3 (Nat.le_of_ble_eq_true rfl) rfl ?_
  refine k_iconst (v := nI 0) eX8_fillLeft_4 (by decide) ?_
  refine k_istore (L2 := [_, _, _, _, _]) eX8_fillLeft_5 (Nat.le_of_ble_eq_true rfl) rfl ?_
  refine k_heap (h2 := hp (sa S 22 (fillO g (rn * 120) (S.2.1 22) 0))) (by rw [fillO, sa_self]) ?_
  refine lX8_fillLeft22 (by decide) hrn hrn5 g ?_ 120 0 (by omega)
  refine k_return eX8_fillLeft_47 rfl ?_
  exact ⟨rfl, rfl⟩
set_option maxHeartbeats 400000 in
theorem lX8_fillLeft23 {d : Nat} {Po : Option Value → k_H → Prop} (hdd : 1 ≤ d) {S : k_S} {rn : Nat} (hrn : S.1 1003 = nI rn) (hrn5 : rn < 5) (g : Int32) (kx : AW none MX8_fillLeft d 0 0 47 [.ref 20, .ref 23, .int (g), .int (lft g 120), .int (nI 120)] [] (hp (sa S 23 (fillO g (rn * 120) (S.2.1 23) 120))) Po) : ∀ (n j : Nat), j + n = 120 → AW none MX8_fillLeft d 0 0 7 [.ref 20, .ref 23, .int (g), .int (lft g j), .int (nI j)] [] (hp (sa S 23 (fillO g (rn * 120) (S.2.1 23) j))) Po := by
  intro n
  induction n with
  | zero =>
    intro j hj
    rw [show j = 120 by omega]
    refine k_iload eX8_fillLeft_7 rfl ?_
    refine k_bipush (v := nI 120) eX8_fillLeft_9 (by decide) ?_
    refine k_icmp_geN 47 eX8_fillLeft_11 (by decide) (by omega) (by omega) (fun c_11 => ?_) (fun c_11 => by exfalso; omega)
    exact kx
  | succ n ih =>
    intro j hj
    refine k_iload eX8_fillLeft_7 rfl ?_
    refine k_bipush (v := nI 120) eX8_fillLeft_9 (by decide) ?_
    refine k_icmp_geN 47 eX8_fillLeft_11 (by decide) (by omega) (by omega) (fun c_11 => by exfalso; omega) (fun c_11 => ?_)
    refine k_aload_n eX8_fillLeft_14 rfl ?_
    refine k_aload_n eX8_fillLeft_15 rfl ?_
    refine GX8_21 eX8_fillLeft_16 rfl ?_
    refine k_topi (nI rn) hrn ?_
    refine k_bipush (v := nI 120) eX8_fillLeft_19 (by decide) ?_
    refine k_imulN eX8_fillLeft_21 ?_
    refine k_iload eX8_fillLeft_22 rfl ?_
    refine k_iaddN eX8_fillLeft_24 ?_
    refine k_iload_n eX8_fillLeft_25 rfl ?_
    refine cN0 (M' := MX11_write) eX8_fillLeft_26 mX8_25 wX11_write sX11_write rfl (pX11_writeN (j := ((rn * 120) + j)) (v := lft g j) (ar23 _) (by omega) (by decide) (as23 _ _)) (by omega) (Nat.le_of_ble_eq_true rfl) ?_
    refine k_iload_n eX8_fillLeft_29 rfl ?_
    refine k_sipush (v := nI 1000) eX8_fillLeft_30 (by decide) ?_
    refine k_iload_n eX8_fillLeft_33 rfl ?_
    refine k_isub eX8_fillLeft_34 ?_
    refine k_imul eX8_fillLeft_35 ?_
    refine k_sipush (v := nI 1000) eX8_fillLeft_36 (by decide) ?_
    refine k_idiv eX8_fillLeft_39 (by decide) ?_
    refine k_istore_n (L2 := [_, _, _, _, _]) eX8_fillLeft_40 (Nat.le_of_ble_eq_true rfl) rfl ?_
    refine k_iincN (g := 1) (a := j) (L2 := [_, _, _, _, _]) eX8_fillLeft_41 (Nat.le_of_ble_eq_true rfl) rfl rfl ?_
    refine k_goto 7 eX8_fillLeft_44 (by decide) ?_
    have q := ih (j + 1) (by omega)
    rw [fillO, lft] at q
    rw [sa_sa, sa_at]
    exact q
set_option maxHeartbeats 400000 in
theorem pX8_fillLeft23 {S : k_S} {rn : Nat} (hrn : S.1 1003 = nI rn) (hrn5 : rn < 5) (g : Int32) : Sp 1 0 0 MX8_fillLeft [.ref 20, .ref 23, .int (g)] (hp S) (Rt (none) (hp (sa S 23 (fillO g (rn * 120) (S.2.1 23) 120)))) := by
  refine Sp_of (by decide +kernel) (Nat.le_of_ble_eq_true rfl) ?_
  show AW none MX8_fillLeft 1 0 0 0 [.ref 20, .ref 23, .int (g), .null, .null] [] (hp S) _
  refine k_sipush (v := nI 1000) eX8_fillLeft_0 (by decide) ?_
  refine k_istore_n (L2 := [_, _, _, _, _]) eX8_fillLeft_3 (Nat.le_of_ble_eq_true rfl) rfl ?_
  refine k_iconst (v := nI 0) eX8_fillLeft_4 (by decide) ?_
  refine k_istore (L2 := [_, _, _, _, _]) eX8_fillLeft_5 (Nat.le_of_ble_eq_true rfl) rfl ?_
  refine k_heap (h2 := hp (sa S 23 (fillO g (rn * 120) (S.2.1 23) 0))) (by rw [fillO, sa_self]) ?_
  refine lX8_fillLeft23 (by decide) hrn hrn5 g ?_ 120 0 (by omega)
  refine k_return eX8_fillLeft_47 rfl ?_
  exact ⟨rfl, rfl⟩
def rnAdd (S : k_S) (rn : Nat) (f s g : Int32) : k_S := si (sa (sa (sa S 21 (va_up (S.2.1 21) rn g)) 22 (fillO f (rn * 120) (S.2.1 22) 120)) 23 (fillO s (rn * 120) (S.2.1 23) 120)) 1003 (nI (rn + 1))
set_option maxHeartbeats 400000 in
theorem pX8_add {S : k_S} {rn : Nat} (hrn : S.1 1003 = nI rn) (hrn5 : rn < 5) (f s g : Int32) : Sp 2 0 0 MX8_add [.ref 20, .int (f), .int (s), .int (g)] (hp S) (Rt (some (.int (nI rn))) (hp (rnAdd S rn f s g))) := by
  refine Sp_of (by decide +kernel) (Nat.le_of_ble_eq_true rfl) ?_
  show AW none MX8_add 2 0 0 0 [.ref 20, .int (f), .int (s), .int (g)] [] (hp S) _
  refine k_aload_n eX8_add_0 rfl ?_
  refine GX8_21 eX8_add_1 rfl ?_
  refine k_topi (nI rn) hrn ?_
  refine k_iconst (v := nI 5) eX8_add_4 (by decide) ?_
  refine k_icmp_ltN 11 eX8_add_5 (by decide) (by omega) (by omega) (fun c_5 => ?_) (fun c_5 => by exfalso; omega)
  refine k_aload_n eX8_add_11 rfl ?_
  refine GX8_9 eX8_add_12 rfl ?_
  refine k_aload_n eX8_add_15 rfl ?_
  refine GX8_21 eX8_add_16 rfl ?_
  refine k_topi (nI rn) hrn ?_
  refine k_iload_n eX8_add_19 rfl ?_
  refine cN0 (M' := MX11_write) eX8_add_20 mX8_25 wX11_write sX11_write rfl (pX11_writeN (j := rn) (v := g) (ar21 _) (by omega) (by decide) (as21 _ _)) (by decide) (Nat.le_of_ble_eq_true rfl) ?_
  refine k_aload_n eX8_add_23 rfl ?_
  refine k_aload_n eX8_add_24 rfl ?_
  refine GX8_15 eX8_add_25 rfl ?_
  refine k_iload_n eX8_add_28 rfl ?_
  refine cV0 (M' := MX8_fillLeft) eX8_add_29 mX8_29 wX8_fillLeft vX8_fillLeft ⟨_, _, _, rfl, rfl, rfl⟩ rfl (pX8_fillLeft22 (S := (sa S 21 (va_up ((S).2.1 21) rn (g)))) (rn := rn) hrn hrn5 (f)) (by decide) (Nat.le_of_ble_eq_true rfl) ?_
  refine k_aload_n eX8_add_32 rfl ?_
  refine k_aload_n eX8_add_33 rfl ?_
  refine GX8_18 eX8_add_34 rfl ?_
  refine k_iload_n eX8_add_37 rfl ?_
  refine cV0 (M' := MX8_fillLeft) eX8_add_38 mX8_29 wX8_fillLeft vX8_fillLeft ⟨_, _, _, rfl, rfl, rfl⟩ rfl (pX8_fillLeft23 (S := (sa (sa S 21 (va_up ((S).2.1 21) rn (g))) 22 (fillO (f) (rn * 120) (((sa S 21 (va_up ((S).2.1 21) rn (g)))).2.1 22) 120))) (rn := rn) hrn hrn5 (s)) (by decide) (Nat.le_of_ble_eq_true rfl) ?_
  refine k_aload_n eX8_add_41 rfl ?_
  refine k_dup eX8_add_42 rfl ?_
  refine GX8_21 eX8_add_43 rfl ?_
  refine k_topi (nI rn) hrn ?_
  refine k_iconst (v := nI 1) eX8_add_46 (by decide) ?_
  refine k_iaddN eX8_add_47 ?_
  refine PX8_21 eX8_add_48 rfl ?_
  refine k_aload_n eX8_add_51 rfl ?_
  refine GX8_21 eX8_add_52 rfl ?_
  refine k_topi (nI (rn + 1)) rfl ?_
  refine k_iconst (v := nI 1) eX8_add_55 (by decide) ?_
  refine k_isubN eX8_add_56 (by omega) ?_
  refine k_ireturn eX8_add_57 rfl rfl ?_
  exact ⟨rfl, rfl⟩
set_option maxHeartbeats 400000 in
theorem pX8_addF {S : k_S} {rn : Nat} (hrn : S.1 1003 = nI rn) (hrn5 : rn = 5) (f s g : Int32) : Sp 0 0 0 MX8_add [.ref 20, .int (f), .int (s), .int (g)] (hp S) (Rt (some (.int (-3))) (hp S)) := by
  refine Sp_of (by decide +kernel) (Nat.le_of_ble_eq_true rfl) ?_
  show AW none MX8_add 0 0 0 0 [.ref 20, .int (f), .int (s), .int (g)] [] (hp S) _
  refine k_aload_n eX8_add_0 rfl ?_
  refine GX8_21 eX8_add_1 rfl ?_
  refine k_topi (nI rn) hrn ?_
  refine k_iconst (v := nI 5) eX8_add_4 (by decide) ?_
  refine k_icmp_ltN 11 eX8_add_5 (by decide) (by omega) (by omega) (fun c_5 => by exfalso; omega) (fun c_5 => ?_)
  refine k_bipush (v := (-3)) eX8_add_8 (by decide) ?_
  refine k_ireturn eX8_add_10 rfl rfl ?_
  exact ⟨rfl, rfl⟩
def rcAdd (S : k_S) (dn : Nat) (d w : Int32) : k_S := si (sa (sa S 27 (va_up (S.2.1 27) dn d)) 28 (va_up (S.2.1 28) dn w)) 1302 (nI (dn + 1))
def tld (f : Nat → Int32) (day : Int32) : Nat → Bool
  | 0 => false
  | n + 1 => tld f day n || decide (f n = day)
def lstD (f : Nat → Int32) : Nat → Int32
  | 0 => -1
  | n + 1 => mx (lstD f n) (f n)
def nxt (V : k_V) (d : Nat) : Nat → Nat
  | 0 => 120
  | n + 1 => if cN V n < d then nxt V d n else min (nxt V d n) (cN V n)
theorem nxt_le (V : k_V) (d : Nat) : ∀ n, nxt V d n ≤ 120
  | 0 => Nat.le_refl _
  | n + 1 => by have := nxt_le V d n; rw [nxt]; split <;> omega
theorem mn_nI {a b : Nat} (ha : a < 2 ^ 31) (hb : b < 2 ^ 31) : mn (nI a) (nI b) = nI (min a b) := by
  rw [mn]
  by_cases h : nI b < nI a
  · rw [if_pos h]; rw [nI_ltI hb ha] at h; rw [Nat.min_eq_right (by omega)]
  · rw [if_neg h]; rw [nI_ltI hb ha] at h; rw [Nat.min_eq_left (by omega)]
theorem mx_nI {a b : Nat} (ha : a < 2 ^ 31) (hb : b < 2 ^ 31) : mx (nI a) (nI b) = nI (max a b) := by
  rw [mx]
  by_cases h : nI a < nI b
  · rw [if_pos h]; rw [nI_ltI ha hb] at h; rw [Nat.max_eq_right (by omega)]
  · rw [if_neg h]; rw [nI_ltI ha hb] at h; rw [Nat.max_eq_left (by omega)]
set_option maxHeartbeats 400000 in
theorem pX5_add {S : k_S} {dn : Nat} (hdn : S.1 1302 = nI dn) (hlt : dn < 4) (dd w : Int32) : Sp 1 0 0 MX5_add [.ref 26, .int (dd), .int (w)] (hp S) (Rt (some (.int (nI (dn + 1)))) (hp (rcAdd S dn dd w))) := by
  refine Sp_of (by decide +kernel) (Nat.le_of_ble_eq_true rfl) ?_
  show AW none MX5_add 1 0 0 0 [.ref 26, .int (dd), .int (w)] [] (hp S) _
  refine k_aload_n eX5_add_0 rfl ?_
  refine GX5_18 eX5_add_1 rfl ?_
  refine k_topi (nI dn) hdn ?_
  refine k_iconst (v := nI 4) eX5_add_4 (by decide) ?_
  refine k_icmp_ltN 11 eX5_add_5 (by decide) (by omega) (by omega) (fun c_5 => ?_) (fun c_5 => by exfalso; omega)
  refine k_aload_n eX5_add_11 rfl ?_
  refine GX5_9 eX5_add_12 rfl ?_
  refine k_aload_n eX5_add_15 rfl ?_
  refine GX5_18 eX5_add_16 rfl ?_
  refine k_topi (nI dn) hdn ?_
  refine k_iload_n eX5_add_19 rfl ?_
  refine cN0 (M' := MX11_write) eX5_add_20 mX5_22 wX11_write sX11_write rfl (pX11_writeN (j := dn) (v := dd) (ar27 _) (by omega) (by decide) (as27 _ _)) (by decide) (Nat.le_of_ble_eq_true rfl) ?_
  refine k_aload_n eX5_add_23 rfl ?_
  refine GX5_15 eX5_add_24 rfl ?_
  refine k_aload_n eX5_add_27 rfl ?_
  refine GX5_18 eX5_add_28 rfl ?_
  refine k_topi (nI dn) hdn ?_
  refine k_iload_n eX5_add_31 rfl ?_
  refine cN0 (M' := MX11_write) eX5_add_32 mX5_22 wX11_write sX11_write rfl (pX11_writeN (j := dn) (v := w) (ar28 _) (by omega) (by decide) (as28 _ _)) (by decide) (Nat.le_of_ble_eq_true rfl) ?_
  refine k_aload_n eX5_add_35 rfl ?_
  refine k_dup eX5_add_36 rfl ?_
  refine GX5_18 eX5_add_37 rfl ?_
  refine k_topi (nI dn) hdn ?_
  refine k_iconst (v := nI 1) eX5_add_40 (by decide) ?_
  refine k_iaddN eX5_add_41 ?_
  refine PX5_18 eX5_add_42 rfl ?_
  refine k_aload_n eX5_add_45 rfl ?_
  refine GX5_18 eX5_add_46 rfl ?_
  refine k_topi (nI (dn + 1)) rfl ?_
  refine k_ireturn eX5_add_49 rfl rfl ?_
  exact ⟨rfl, rfl⟩
set_option maxHeartbeats 400000 in
theorem pX5_addF {S : k_S} {dn : Nat} (hdn : S.1 1302 = nI dn) (hlt : dn = 4) (dd w : Int32) : Sp 0 0 0 MX5_add [.ref 26, .int (dd), .int (w)] (hp S) (Rt (some (.int (-3))) (hp S)) := by
  refine Sp_of (by decide +kernel) (Nat.le_of_ble_eq_true rfl) ?_
  show AW none MX5_add 0 0 0 0 [.ref 26, .int (dd), .int (w)] [] (hp S) _
  refine k_aload_n eX5_add_0 rfl ?_
  refine GX5_18 eX5_add_1 rfl ?_
  refine k_topi (nI dn) hdn ?_
  refine k_iconst (v := nI 4) eX5_add_4 (by decide) ?_
  refine k_icmp_ltN 11 eX5_add_5 (by decide) (by omega) (by omega) (fun c_5 => by exfalso; omega) (fun c_5 => ?_)
  refine k_bipush (v := (-3)) eX5_add_8 (by decide) ?_
  refine k_ireturn eX5_add_10 rfl rfl ?_
  exact ⟨rfl, rfl⟩
theorem tld_t {f : Nat → Int32} {dd : Int32} {n j : Nat} (h : j < n) (e : f j = dd) : tld f dd n = true := by
  induction n with
  | zero => omega
  | succ n ih =>
    rw [tld]
    by_cases q : j = n
    · subst q; simp [e]
    · rw [ih (by omega)]; rfl
set_option maxHeartbeats 400000 in
theorem lX5_isTold {d : Nat} (hdd : 2 ≤ d) {S : k_S} {dn : Nat} (hdn : S.1 1302 = nI dn) (hd4 : dn ≤ 4) (dd : Int32) (kx : (tld (S.2.1 27) dd dn = false) → AW none MX5_isTold d 0 0 27 [.ref 26, .int (dd), .int (nI dn)] [] (hp S) (Rt (some (.int (b2i (tld (S.2.1 27) dd dn = true)))) (hp S))) : ∀ (n j : Nat), j + n = dn → (tld (S.2.1 27) dd j = false) → AW none MX5_isTold d 0 0 2 [.ref 26, .int (dd), .int (nI j)] [] (hp S) (Rt (some (.int (b2i (tld (S.2.1 27) dd dn = true)))) (hp S)) := by
  intro n
  induction n with
  | zero =>
    intro j hj
    rw [show j = dn by omega]
    intro hH
    refine k_iload_n eX5_isTold_2 rfl ?_
    refine k_aload_n eX5_isTold_3 rfl ?_
    refine GX5_18 eX5_isTold_4 rfl ?_
    refine k_topi (nI dn) hdn ?_
    refine k_icmp_geN 27 eX5_isTold_7 (by decide) (by omega) (by omega) (fun c_7 => ?_) (fun c_7 => by exfalso; omega)
    exact kx hH
  | succ n ih =>
    intro j hj hH
    refine k_iload_n eX5_isTold_2 rfl ?_
    refine k_aload_n eX5_isTold_3 rfl ?_
    refine GX5_18 eX5_isTold_4 rfl ?_
    refine k_topi (nI dn) hdn ?_
    refine k_icmp_geN 27 eX5_isTold_7 (by decide) (by omega) (by omega) (fun c_7 => by exfalso; omega) (fun c_7 => ?_)
    refine k_aload_n eX5_isTold_10 rfl ?_
    refine k_iload_n eX5_isTold_11 rfl ?_
    refine cV1 (M' := MX5_dayOf) eX5_isTold_12 mX5_26 wX5_dayOf vX5_dayOf ⟨_, _, _, rfl, rfl, rfl⟩ rfl (pX5_dayOf (S := S) (j := j) (by omega)) (by omega) (Nat.le_of_ble_eq_true rfl) ?_
    refine k_iload_n eX5_isTold_15 rfl ?_
    refine k_icmp_ne 21 eX5_isTold_16 (by decide) (fun c_16 => ?_) (fun c_16 => ?_)
    · refine k_iincN (g := 1) (a := j) (L2 := [_, _, _]) eX5_isTold_21 (Nat.le_of_ble_eq_true rfl) rfl rfl ?_
      refine k_goto 2 eX5_isTold_24 (by decide) ?_
      exact ih (j + 1) (by omega) (by rw [tld, hH]; simp [c_16])
    refine k_iconst (v := nI 1) eX5_isTold_19 (by decide) ?_
    refine k_ireturn eX5_isTold_20 rfl rfl ?_
    rw [b2i_t (tld_t (by omega) c_16)]
    exact ⟨rfl, rfl⟩
set_option maxHeartbeats 400000 in
theorem pX5_isTold {S : k_S} {dn : Nat} (hdn : S.1 1302 = nI dn) (hd4 : dn ≤ 4) (dd : Int32) : Sp 2 0 0 MX5_isTold [.ref 26, .int (dd)] (hp S) (Rt (some (.int (b2i (tld (S.2.1 27) dd dn = true)))) (hp S)) := by
  refine Sp_of (by decide +kernel) (Nat.le_of_ble_eq_true rfl) ?_
  show AW none MX5_isTold 2 0 0 0 [.ref 26, .int (dd), .null] [] (hp S) _
  refine k_iconst (v := nI 0) eX5_isTold_0 (by decide) ?_
  refine k_istore_n (L2 := [_, _, _]) eX5_isTold_1 (Nat.le_of_ble_eq_true rfl) rfl ?_
  refine lX5_isTold (by decide) hdn hd4 dd (fun hH => ?_) dn 0 (by omega) rfl
  refine k_iconst (v := nI 0) eX5_isTold_27 (by decide) ?_
  refine k_ireturn eX5_isTold_28 rfl rfl ?_
  exact ⟨rt_f (by rw [hH]; decide), rfl⟩
def gNx (V : k_V) (dn d : Nat) : Int32 := if nxt V d dn = 120 then nI 99 else nI (nxt V d dn) - nI d
