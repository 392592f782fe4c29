def sumN (f : Nat → Int32) : Nat → Int32
  | 0 => nI 0
  | n + 1 => sumN f n + f n
/-- how many of n from a on are not 0 -/
def cnt (f : Nat → Int32) (a : Nat) : Nat → Nat
  | 0 => 0
  | n + 1 => cnt f a n + if f (a + n) = 0 then 0 else 1
theorem cnt_le (f : Nat → Int32) (a : Nat) : ∀ n, cnt f a n ≤ n
  | 0 => Nat.le_refl 0
  | n + 1 => by have := cnt_le f a n; rw [cnt]; split <;> omega
set_option maxHeartbeats 400000 in
theorem pX8_has {S : k_S} (v : Int32) : Sp 0 0 0 MX8_has [.ref 20, .int (v)] (hp S) (Rt (some (.int (b2i (pW (S.1 1003) v)))) (hp S)) := by
  refine Sp_of (by decide +kernel) (Nat.le_of_ble_eq_true rfl) ?_
  show AW none MX8_has 0 0 0 0 [.ref 20, .int (v)] [] (hp S) _
  refine k_iload_n eX8_has_0 rfl ?_
  refine k_if_lt 16 eX8_has_1 (by decide) (fun c_1 => ?_) (fun c_1 => ?_)
  · refine k_iconst (v := nI 0) eX8_has_16 (by decide) ?_
    refine k_ireturn eX8_has_17 rfl rfl ?_
    exact ⟨rt_f (fun q => by first | exact absurd q.1 (Int32.not_le.mpr (by assumption)) | exact absurd q.2 (Int32.not_lt.mpr (by assumption))), rfl⟩
  refine k_iload_n eX8_has_4 rfl ?_
  refine k_aload_n eX8_has_5 rfl ?_
  refine GX8_21 eX8_has_6 rfl ?_
  refine k_icmp_ge 16 eX8_has_9 (by decide) (fun c_9 => ?_) (fun c_9 => ?_)
  · refine k_iconst (v := nI 0) eX8_has_16 (by decide) ?_
    refine k_ireturn eX8_has_17 rfl rfl ?_
    exact ⟨rt_f (fun q => by first | exact absurd q.1 (Int32.not_le.mpr (by assumption)) | exact absurd q.2 (Int32.not_lt.mpr (by assumption))), rfl⟩
  refine k_iconst (v := nI 1) eX8_has_12 (by decide) ?_
  refine k_goto 17 eX8_has_13 (by decide) ?_
  refine k_ireturn eX8_has_17 rfl rfl ?_
  exact ⟨rt_t ⟨Int32.not_lt.mp c_1, Int32.not_le.mp c_9⟩, rfl⟩
set_option maxHeartbeats 400000 in
theorem pX2_at {S : k_S} {j : Nat} (hj : j < 120) : Sp 1 0 0 MX2_at [.ref 24, .int (nI j)] (hp S) (Rt (some (.int (S.2.1 25 j))) (hp S)) := by
  refine Sp_of (by decide +kernel) (Nat.le_of_ble_eq_true rfl) ?_
  show AW none MX2_at 1 0 0 0 [.ref 24, .int (nI j)] [] (hp S) _
  refine k_aload_n eX2_at_0 rfl ?_
  refine GX2_9 eX2_at_1 rfl ?_
  refine k_iload_n eX2_at_4 rfl ?_
  refine cN1 (M' := MX11_read) eX2_at_5 mX2_15 wX11_read sX11_read rfl (pX11_readN (j := j) (ar25 _) (by omega) (by decide)) (by decide) (Nat.le_of_ble_eq_true rfl) ?_
  refine k_ireturn eX2_at_8 rfl rfl ?_
  exact ⟨rfl, rfl⟩
set_option maxHeartbeats 400000 in
theorem pX2_set {S : k_S} {j : Nat} (v : Int32) (hj : j < 120) : Sp 1 0 0 MX2_set [.ref 24, .int (nI j), .int (v)] (hp S) (Rt (none) (hp (sa S 25 (va_up ((S).2.1 25) j (v))))) := by
  refine Sp_of (by decide +kernel) (Nat.le_of_ble_eq_true rfl) ?_
  show AW none MX2_set 1 0 0 0 [.ref 24, .int (nI j), .int (v)] [] (hp S) _
  refine k_aload_n eX2_set_0 rfl ?_
  refine GX2_9 eX2_set_1 rfl ?_
  refine k_iload_n eX2_set_4 rfl ?_
  refine k_iload_n eX2_set_5 rfl ?_
  refine cN0 (M' := MX11_write) eX2_set_6 mX2_19 wX11_write sX11_write rfl (pX11_writeN (j := j) (v := v) (ar25 _) (by omega) (by decide) (as25 _ _)) (by decide) (Nat.le_of_ble_eq_true rfl) ?_
  refine k_return eX2_set_9 rfl ?_
  exact ⟨rfl, rfl⟩
set_option maxHeartbeats 400000 in
theorem pX5_dayOf {S : k_S} {j : Nat} (hj : j < 4) : Sp 1 0 0 MX5_dayOf [.ref 26, .int (nI j)] (hp S) (Rt (some (.int (S.2.1 27 j))) (hp S)) := by
  refine Sp_of (by decide +kernel) (Nat.le_of_ble_eq_true rfl) ?_
  show AW none MX5_dayOf 1 0 0 0 [.ref 26, .int (nI j)] [] (hp S) _
  refine k_aload_n eX5_dayOf_0 rfl ?_
  refine GX5_9 eX5_dayOf_1 rfl ?_
  refine k_iload_n eX5_dayOf_4 rfl ?_
  refine cN1 (M' := MX11_read) eX5_dayOf_5 mX5_30 wX11_read sX11_read rfl (pX11_readN (j := j) (ar27 _) (by omega) (by decide)) (by decide) (Nat.le_of_ble_eq_true rfl) ?_
  refine k_ireturn eX5_dayOf_8 rfl rfl ?_
  exact ⟨rfl, rfl⟩
/-- the plan, its first n days rest -/
def restN (f : Nat → Int32) : Nat → Nat → Int32
  | 0 => f
  | n + 1 => va_up (restN f n) n (nI 0)
theorem sa_sa (S : k_S) (a : Nat) (f g : Nat → Int32) : sa (sa S a f) a g = sa S a g := by
  unfold sa; congr 2; funext k; by_cases h : k = a
  · subst h; simp [va_up]
  · simp [va_up, h]
theorem sa_self (S : k_S) (a : Nat) : sa S a (S.2.1 a) = S := by
  show (S.1, va_up S.2.1 a (S.2.1 a), S.2.2) = S
  have : va_up S.2.1 a (S.2.1 a) = S.2.1 := by funext k; by_cases h : k = a <;> simp [va_up, h]
  rw [this]
theorem sa_at (S : k_S) (a : Nat) (f : Nat → Int32) : (sa S a f).2.1 a = f := by simp [sa, va_up]
theorem si_si (S : k_S) (a : Nat) (x y : Int32) : si (si S a x) a y = si S a y := by
  unfold si; congr 1; funext k; by_cases h : k = a <;> simp [va_up, h]
theorem si_self (S : k_S) (a : Nat) : si S a (S.1 a) = S := by
  show (va_up S.1 a (S.1 a), S.2) = S
  have : va_up S.1 a (S.1 a) = S.1 := by funext k; by_cases h : k = a <;> simp [va_up, h]
  rw [this]
theorem sj_sj (S : k_S) (a : Nat) (f g : Nat → Int64) : sj (sj S a f) a g = sj S a g := by
  unfold sj; congr 2; funext k; by_cases h : k = a
  · subst h; simp [va_up]
  · simp [va_up, h]
theorem sj_self (S : k_S) (a : Nat) : sj S a (S.2.2 a) = S := by
  show (S.1, S.2.1, va_up S.2.2 a (S.2.2 a)) = S
  have : va_up S.2.2 a (S.2.2 a) = S.2.2 := by funext k; by_cases h : k = a <;> simp [va_up, h]
  rw [this]
theorem va_up_at {α : Type} (f : Nat → α) (k : Nat) (v : α) : va_up f k v k = v := if_pos rfl
set_option maxHeartbeats 400000 in
theorem lX2_working {d : Nat} {Po : Option Value → k_H → Prop} (hdd : 2 ≤ d) {S : k_S} {a b : Nat} (hb : b < 120) (hab : a ≤ b) (kx : AW none MX2_working d 0 0 29 [.ref 24, .int (nI a), .int (nI b), .int (nI (cnt (S.2.1 25) a ((b + 1 - a)))), .int (nI (a + ((b + 1 - a))))] [] (hp S) Po) : ∀ (n j : Nat), j + n = (b + 1 - a) → AW none MX2_working d 0 0 5 [.ref 24, .int (nI a), .int (nI b), .int (nI (cnt (S.2.1 25) a j)), .int (nI (a + j))] [] (hp S) Po := by
  intro n
  induction n with
  | zero =>
    intro j hj
    rw [show j = (b + 1 - a) by omega]
    refine k_iload eX2_working_5 rfl ?_
    refine k_iload_n eX2_working_7 rfl ?_
    refine k_icmp_gtN 29 eX2_working_8 (by decide) (by omega) (by omega) (fun c_8 => ?_) (fun c_8 => by exfalso; omega)
    exact kx
  | succ n ih =>
    intro j hj
    refine k_iload eX2_working_5 rfl ?_
    refine k_iload_n eX2_working_7 rfl ?_
    refine k_icmp_gtN 29 eX2_working_8 (by decide) (by omega) (by omega) (fun c_8 => by exfalso; omega) (fun c_8 => ?_)
    refine k_aload_n eX2_working_11 rfl ?_
    refine k_iload eX2_working_12 rfl ?_
    refine cV1 (M' := MX2_at) eX2_working_14 mX2_27 wX2_at vX2_at ⟨_, _, _, rfl, rfl, rfl⟩ rfl (pX2_at (S := S) (j := (a + j)) (by omega)) (by omega) (Nat.le_of_ble_eq_true rfl) ?_
    refine k_if_eq 23 eX2_working_17 (by decide) (fun c_17 => ?_) (fun c_17 => ?_)
    · have hc := cnt_le (S.2.1 25) a j
      refine k_iincN (g := 1) (a := (a + j)) (L2 := [_, _, _, _, _]) eX2_working_23 (Nat.le_of_ble_eq_true rfl) rfl rfl ?_
      refine k_goto 5 eX2_working_26 (by decide) ?_
      have q := ih (j + 1) (by omega)
      rw [cnt] at q
      first | (rw [if_pos c_17] at q; exact q) | (rw [if_neg c_17] at q; exact q)
    have hc := cnt_le (S.2.1 25) a j
    refine k_iincN (g := 1) (a := (cnt (S.2.1 25) a j)) (L2 := [_, _, _, _, _]) eX2_working_20 (Nat.le_of_ble_eq_true rfl) rfl rfl ?_
    refine k_iincN (g := 1) (a := (a + j)) (L2 := [_, _, _, _, _]) eX2_working_23 (Nat.le_of_ble_eq_true rfl) rfl rfl ?_
    refine k_goto 5 eX2_working_26 (by decide) ?_
    have q := ih (j + 1) (by omega)
    rw [cnt] at q
    first | (rw [if_pos c_17] at q; exact q) | (rw [if_neg c_17] at q; exact q)
set_option maxHeartbeats 400000 in
theorem pX2_working {S : k_S} {a b : Nat} (hb : b < 120) (hab : a ≤ b) : Sp 2 0 0 MX2_working [.ref 24, .int (nI a), .int (nI b)] (hp S) (Rt (some (.int (nI (cnt (S.2.1 25) a (b + 1 - a))))) (hp S)) := by
  refine Sp_of (by decide +kernel) (Nat.le_of_ble_eq_true rfl) ?_
  show AW none MX2_working 2 0 0 0 [.ref 24, .int (nI a), .int (nI b), .null, .null] [] (hp S) _
  refine k_iconst (v := nI 0) eX2_working_0 (by decide) ?_
  refine k_istore_n (L2 := [_, _, _, _, _]) eX2_working_1 (Nat.le_of_ble_eq_true rfl) rfl ?_
  refine k_iload_n eX2_working_2 rfl ?_
  refine k_istore (L2 := [_, _, _, _, _]) eX2_working_3 (Nat.le_of_ble_eq_true rfl) rfl ?_
  refine lX2_working (by decide) hb hab ?_ ((b + 1 - a)) 0 (by omega)
  refine k_iload_n eX2_working_29 rfl ?_
  refine k_ireturn eX2_working_30 rfl rfl ?_
  exact ⟨rfl, rfl⟩
