theorem strL_0 (Ns : Nat) (xs : Nat → Int32) (r k : Nat) : strL Ns xs r 0 k = nI 0 := by
  have e : stN Ns xs 0 = 0 := if_pos rfl
  have z : ∀ y : Int32, nI 0 * y = nI 0 := fun y => Int32.zero_mul
  rw [strL, e, z, show nI 0 / nI 1000 = nI 0 from by decide, z]
theorem tirL_0 (Ns : Nat) (xs : Nat → Int32) (r k : Nat) : tirL Ns xs r 0 k = nI 0 := by
  have e : tiN Ns xs 0 = 0 := if_pos rfl
  have z : ∀ y : Int32, nI 0 * y = nI 0 := fun y => Int32.zero_mul
  rw [tirL, e, z]
theorem ring_a (a b c : Int32) : a + b = a + c - c + b := by grind
theorem ring_b (a b c d : Int32) : a - b + c + d = a + d - b + c := by grind
theorem ring_c (a b fa fb ga gb : Int32) : a - ga + fa - (b - gb + fb) - (a - b) = fa - fb - (ga - gb) := by grind
theorem sumN_u {f g : Nat → Int32} {p : Nat} : ∀ n, p < n → (∀ j, j < n → j ≠ p → f j = g j) → sumN f n = sumN g n - g p + f p
  | 0, h, _ => absurd h (by omega)
  | n + 1, h, hj => by
    by_cases q : p = n
    · subst q
      rw [sumN, sumN, sumN_c p (fun j hj2 => hj j (by omega) (by omega))]
      exact ring_a _ _ _
    · rw [sumN, sumN, sumN_u n (by omega) (fun j h1 h2 => hj j (by omega) h2), hj n (by omega) (fun e => q e.symm)]
      exact ring_b _ _ _ _
/-- the plan, one day of it another work -/
def Pu (P : Nat → Nat) (v : Nat) : Nat → Nat := fun d => if d = 9 then v else P d
theorem Pu_9 (P : Nat → Nat) (v : Nat) : Pu P v 9 = v := if_pos rfl
theorem Pu_n (P : Nat → Nat) (v : Nat) {d : Nat} (h : d ≠ 9) : Pu P v d = P d := if_neg h
theorem fit_ch {Ns : Nat} {xs : Nat → Int32} {S T : k_S} {P : Nat → Nat} {v : Nat} (h : LF Ns xs S P) (h2 : LF Ns xs T (Pu P v)) : fitv (vC T) 0 30 - fitv (vC S) 0 30 = ptL Ns xs 0 v 21 - ptL Ns xs 0 (P 9) 21 := by
  rw [fitv_L h (by decide) (by decide), fitv_L h2 (by decide) (by decide)]
  have zs : ∀ w k, (if w = 0 then nI 0 else strL Ns xs 0 w k) = strL Ns xs 0 w k := fun w k => by
    by_cases q : w = 0
    · subst q; rw [if_pos rfl, strL_0]
    · rw [if_neg q]
  have zt : ∀ w k, (if w = 0 then nI 0 else tirL Ns xs 0 w k) = tirL Ns xs 0 w k := fun w k => by
    by_cases q : w = 0
    · subst q; rw [if_pos rfl, tirL_0]
    · rw [if_neg q]
  have a : sBk Ns xs (Pu P v) 0 30 (30 + 1) = sBk Ns xs P 0 30 (30 + 1) - strL Ns xs 0 (P 9) 21 + strL Ns xs 0 v 21 := by
    have q := sumN_u (f := fun k => if Pu P v (30 - k) = 0 then nI 0 else strL Ns xs 0 (Pu P v (30 - k)) k) (g := fun k => if P (30 - k) = 0 then nI 0 else strL Ns xs 0 (P (30 - k)) k) (p := 21) (30 + 1) (by omega) (fun j h1 h3 => by
      show (if Pu P v (30 - j) = 0 then nI 0 else strL Ns xs 0 (Pu P v (30 - j)) j) = _
      rw [Pu_n P v (by omega)])
    rw [sBk, q]
    show _ - (if P 9 = 0 then nI 0 else strL Ns xs 0 (P 9) 21) + (if Pu P v 9 = 0 then nI 0 else strL Ns xs 0 (Pu P v 9) 21) = _
    rw [Pu_9, zs, zs]; rfl
  have b : tBk Ns xs (Pu P v) 0 30 (30 + 1) = tBk Ns xs P 0 30 (30 + 1) - tirL Ns xs 0 (P 9) 21 + tirL Ns xs 0 v 21 := by
    have q := sumN_u (f := fun k => if Pu P v (30 - k) = 0 then nI 0 else tirL Ns xs 0 (Pu P v (30 - k)) k) (g := fun k => if P (30 - k) = 0 then nI 0 else tirL Ns xs 0 (P (30 - k)) k) (p := 21) (30 + 1) (by omega) (fun j h1 h3 => by
      show (if Pu P v (30 - j) = 0 then nI 0 else tirL Ns xs 0 (Pu P v (30 - j)) j) = _
      rw [Pu_n P v (by omega)])
    rw [tBk, q]
    show _ - (if P 9 = 0 then nI 0 else tirL Ns xs 0 (P 9) 21) + (if Pu P v 9 = 0 then nI 0 else tirL Ns xs 0 (Pu P v 9) 21) = _
    rw [Pu_9, zt, zt]; rfl
  rw [a, b]
  exact ring_c _ _ _ _ _ _
theorem LF.mv {Ns : Nat} {xs : Nat → Int32} {S T : k_S} {P P2 : Nat → Nat} (h : LF Ns xs S P) (e1 : T.1 803 = S.1 803) (e2 : T.1 1003 = S.1 1003) (e3 : ∀ a, a = 17 ∨ a = 18 ∨ a = 21 ∨ a = 22 ∨ a = 23 → T.2.1 a = S.2.1 a) (e4 : ∀ d, d < 120 → T.2.1 25 d = nI (P2 d)) (e5 : ∀ d, P2 d ≤ 3) : LF Ns xs T P2 := by
  refine ⟨e1.trans h.1, e2.trans h.2.1, fun r w k hr hw hk => ?_, e4, e5⟩
  obtain ⟨a, b⟩ := h.2.2.1 r w k hr hw hk
  constructor
  · rw [← a]
    show T.2.1 18 w * T.2.1 21 r / nI 1000 * T.2.1 23 (r * 120 + k) = S.2.1 18 w * S.2.1 21 r / nI 1000 * S.2.1 23 (r * 120 + k)
    rw [e3 18 (by omega), e3 21 (by omega), e3 23 (by omega)]
  · rw [← b]
    show T.2.1 17 w * T.2.1 22 (r * 120 + k) = S.2.1 17 w * S.2.1 22 (r * 120 + k)
    rw [e3 17 (by omega), e3 22 (by omega)]
/-- the day's change as it lies in the state -/
theorem ch_T {S T : k_S} (v : Int32) (d1 : ∀ k, k ≠ 1656 → T.1 k = (si S 1657 (nI 0)).1 k) (d2 : ∀ a, a ≠ 34 ∧ a ≠ 35 ∧ a ≠ 36 ∧ a ≠ 37 → T.2.1 a = S.2.1 a) (m : Nat) : ∃ U, sa (chP T m 0 9 (S.2.1 25 9) v) 25 (va_up (S.2.1 25) 9 v) = U ∧ U.1 1656 = nI (m + 1) ∧ U.1 1657 = nI 0 ∧ U.2.1 34 m = nI 0 ∧ U.2.1 35 m = nI 9 ∧ U.2.1 36 m = S.2.1 25 9 ∧ U.2.1 37 m = v ∧ U.2.1 25 = va_up (S.2.1 25) 9 v ∧ (U.1 803 = S.1 803 ∧ U.1 1003 = S.1 1003) ∧ ∀ a, a = 17 ∨ a = 18 ∨ a = 21 ∨ a = 22 ∨ a = 23 → U.2.1 a = S.2.1 a := by
  obtain ⟨g1, g2, g3, g4⟩ := tl_T 9 v d1 d2 m
  refine ⟨_, rfl, g4, ?_, up_e _ _ _, up_e _ _ _, up_e _ _ _, up_e _ _ _, g2, ⟨g1 803 (by omega), g1 1003 (by omega)⟩, fun a ha => g3 a (by omega)⟩
  show va_up T.1 1656 (nI (m + 1)) 1657 = nI 0
  rw [up_n _ _ (by decide), d1 1657 (by decide)]
  rfl
theorem ch_all {S : k_S} {n : Nat} (hn : S.1 1656 = nI n) (h40 : n ≤ 40) {v : Int32} (hne : ¬ S.2.1 25 9 = v) : ∃ m, m < 40 ∧ m + 1 = min 40 (n + 1) ∧ ∃ U, tlU S n 25 0 9 v = U ∧ U.1 1656 = nI (m + 1) ∧ U.1 1657 = nI 0 ∧ U.2.1 34 m = nI 0 ∧ U.2.1 35 m = nI 9 ∧ U.2.1 36 m = S.2.1 25 9 ∧ U.2.1 37 m = v ∧ U.2.1 25 = va_up (S.2.1 25) 9 v ∧ (U.1 803 = S.1 803 ∧ U.1 1003 = S.1 1003) ∧ ∀ a, a = 17 ∨ a = 18 ∨ a = 21 ∨ a = 22 ∨ a = 23 → U.2.1 a = S.2.1 a := by
  unfold tlU
  rw [if_neg hne]
  by_cases h2 : n = 40
  · refine ⟨39, by decide, by omega, ?_⟩
    rw [if_pos h2]
    obtain ⟨T, hT, d1, d2⟩ : ∃ T, drS (si S 1657 (nI 0)) = T ∧ (∀ k, k ≠ 1656 → T.1 k = (si S 1657 (nI 0)).1 k) ∧ (∀ a, a ≠ 34 ∧ a ≠ 35 ∧ a ≠ 36 ∧ a ≠ 37 → T.2.1 a = S.2.1 a) := ⟨_, rfl, fun k hk => drS_1 _ hk, fun a ha => drS_2 _ ha⟩
    rw [hT]
    exact ch_T v d1 d2 39
  · refine ⟨n, by omega, by omega, ?_⟩
    rw [if_neg h2]
    exact ch_T (S := S) (T := si S 1657 (nI 0)) v (fun _ _ => rfl) (fun _ _ => rfl) n
theorem up_back (f : Nat → Int32) (k : Nat) (v : Int32) : va_up (va_up f k v) k (f k) = f := by
  funext j
  by_cases h : j = k
  · subst h; rw [up_e]
  · rw [up_n _ _ h, up_n _ _ h]
/-- undone -/
def unS (T : k_S) (m : Nat) : k_S := sa (si (si T 1656 (nI m)) 1657 (nI (0 + 1))) 25 (va_up (T.2.1 25) 9 (T.2.1 36 m))
/-- done again -/
def reS (U : k_S) (m : Nat) : k_S := si (si (sa U 25 (va_up (U.2.1 25) 9 (U.2.1 37 m))) 1656 (nI (m + 1))) 1657 (nI 0)
/-- all of it: told, undone, done again -/
theorem ch_run {Ns : Nat} {xs : Nat → Int32} {S : k_S} {P : Nat → Nat} {n v : Nat} (h : LF Ns xs S P) (hn : S.1 1656 = nI n) (h40 : n ≤ 40) (hv : v ≤ 3) (hne : v ≠ P 9) : ∃ m T, m < 40 ∧ m + 1 = min 40 (n + 1) ∧ sPln S n (nI 9) (nI v) = T ∧ LF Ns xs T (Pu P v) ∧ T.1 1656 = nI (m + 1) ∧ T.1 1657 = nI 0 ∧ T.2.1 34 m = nI 0 ∧ T.2.1 35 m = nI 9 ∧ LF Ns xs (unS T m) P ∧ (unS T m).1 1656 = nI m ∧ (unS T m).1 1657 = nI (0 + 1) ∧ (unS T m).2.1 34 m = nI 0 ∧ (unS T m).2.1 35 m = nI 9 ∧ LF Ns xs (reS (unS T m) m) (Pu P v) ∧ (reS (unS T m) m).1 1656 = nI (m + 1) := by
  have h9 : S.2.1 25 9 = nI (P 9) := h.2.2.2.1 9 (by decide)
  have hP := h.2.2.2.2
  have hne2 : ¬ S.2.1 25 9 = nI v := by
    rw [h9]
    intro q
    have q2 := congrArg ix q
    rw [ix_nI (by have := hP 9; omega), ix_nI (by omega)] at q2
    exact hne q2.symm
  obtain ⟨m, h1, h2, T, hT, t1, t2, t3, t4, t5, t6, t7, t8, t9⟩ := ch_all hn h40 hne2
  have e : sPln S n (nI 9) (nI v) = T := by
    rw [sPln, if_pos ⟨by decide, by rw [h.1]; exact (pW_N (by omega) (by decide)).mpr (by omega)⟩, ix_nI (by decide), hT]
  have pu : ∀ d, d < 120 → va_up (S.2.1 25) 9 (nI v) d = nI (Pu P v d) := fun d hd => by
    by_cases q : d = 9
    · subst q; rw [up_e, Pu_9]
    · rw [up_n _ _ q, Pu_n P v q]; exact h.2.2.2.1 d hd
  have puv : ∀ d, Pu P v d ≤ 3 := fun d => by
    by_cases q : d = 9
    · subst q; rw [Pu_9]; exact hv
    · rw [Pu_n P v q]; exact hP d
  have hLT : LF Ns xs T (Pu P v) := h.mv t8.1 t8.2 t9 (fun d hd => by rw [t7]; exact pu d hd) puv
  have u25 : (unS T m).2.1 25 = S.2.1 25 := by
    show va_up (T.2.1 25) 9 (T.2.1 36 m) = S.2.1 25
    rw [t7, t5]; exact up_back _ _ _
  have ua : ∀ a, a = 17 ∨ a = 18 ∨ a = 21 ∨ a = 22 ∨ a = 23 → (unS T m).2.1 a = S.2.1 a := fun a ha => by
    rw [← t9 a ha]
    rcases ha with rfl | rfl | rfl | rfl | rfl <;> rfl
  have hLU : LF Ns xs (unS T m) P := h.mv t8.1 t8.2 ua (fun d hd => by rw [u25]; exact h.2.2.2.1 d hd) hP
  have u37 : (unS T m).2.1 37 m = nI v := t6
  have hLW : LF Ns xs (reS (unS T m) m) (Pu P v) := by
    refine h.mv t8.1 t8.2 (fun a ha => ?_) (fun d hd => ?_) puv
    · rw [← ua a ha]
      rcases ha with rfl | rfl | rfl | rfl | rfl <;> rfl
    · show va_up ((unS T m).2.1 25) 9 ((unS T m).2.1 37 m) d = _
      rw [u25, u37]; exact pu d hd
  exact ⟨m, T, h1, h2, e, hLT, t1, t2, t3, t4, hLU, rfl, rfl, t3, t4, hLW, rfl⟩

