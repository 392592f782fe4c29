/-- the three rows of the best works, days ahead of n told -/
def cb1 (V : k_V) (dn wk r : Nat) (S : k_S) : Nat → k_S
  | 0 => S
  | n + 1 => sa (sa (sa (cb1 V dn wk r S n) 30 (va_up ((cb1 V dn wk r S n).2.1 30) n (nI (bs V dn r n (wk - 1)).1))) 31 (va_up ((cb1 V dn wk r S n).2.1 31) n (wor V dn r (bs V dn r n (wk - 1)).1 n))) 32 (va_up ((cb1 V dn wk r S n).2.1 32) n (nI 0))
theorem cb1_1 (V : k_V) (dn wk r : Nat) (S : k_S) : ∀ n, (cb1 V dn wk r S n).1 = S.1
  | 0 => rfl
  | n + 1 => cb1_1 V dn wk r S n
theorem cb1_3 (V : k_V) (dn wk r : Nat) (S : k_S) : ∀ n, (cb1 V dn wk r S n).2.2 = S.2.2
  | 0 => rfl
  | n + 1 => cb1_3 V dn wk r S n
theorem cb1_2 (V : k_V) (dn wk r : Nat) (S : k_S) {k : Nat} (h : k ≠ 30 ∧ k ≠ 31 ∧ k ≠ 32) : ∀ n, (cb1 V dn wk r S n).2.1 k = S.2.1 k
  | 0 => rfl
  | n + 1 => by
    have ih := cb1_2 V dn wk r S h n
    rw [cb1]; simp only [sa, va_up, if_neg h.1, if_neg h.2.1, if_neg h.2.2]; exact ih
theorem cb1_V (V : k_V) (dn wk r : Nat) (S : k_S) : ∀ n, vC (cb1 V dn wk r S n) = vC S
  | 0 => rfl
  | n + 1 => cb1_V V dn wk r S n
theorem cb1_30 (V : k_V) (dn wk r : Nat) (S : k_S) : ∀ n, (cb1 V dn wk r S n).2.1 30 = fillN (fun d => nI (bs V dn r d (wk - 1)).1) (S.2.1 30) n
  | 0 => rfl
  | n + 1 => by rw [fillN, ← cb1_30 V dn wk r S n]; rfl
theorem cb1_31 (V : k_V) (dn wk r : Nat) (S : k_S) : ∀ n, (cb1 V dn wk r S n).2.1 31 = fillN (fun d => wor V dn r (bs V dn r d (wk - 1)).1 d) (S.2.1 31) n
  | 0 => rfl
  | n + 1 => by rw [fillN, ← cb1_31 V dn wk r S n]; rfl
theorem cb1_32 (V : k_V) (dn wk r : Nat) (S : k_S) : ∀ n, (cb1 V dn wk r S n).2.1 32 = fillN (fun _ => nI 0) (S.2.1 32) n
  | 0 => rfl
  | n + 1 => by rw [fillN, ← cb1_32 V dn wk r S n]; rfl
/-- so many choices in the week from f0 on; so many weeks -/
def wkT (f0 : Nat) (p : k_S × Int32) : Nat → k_S × Int32
  | 0 => p
  | n + 1 => (coS (wkT f0 p n).1 f0, (wkT f0 p n).2 + coV (wkT f0 p n).1 f0)
def wkO (m : Nat) (p : k_S × Int32) : Nat → k_S × Int32
  | 0 => p
  | n + 1 => wkT (7 * n) (wkO m p n) m
def cbE (V : k_V) (dn wk r m : Nat) (S : k_S) : k_S × Int32 := wkO m (cb1 V dn wk r S 120, nI 0) 18
set_option maxHeartbeats 400000 in
theorem lX3_cb1 {d : Nat} {Po : Option Value → k_H → Prop} (hdd : 5 ≤ d) {S : k_S} {V : k_V} (hV : vC S = V) {dn : Nat} (hdn : S.1 1302 = nI dn) (hcd : CntOk V dn) {wk : Nat} (hwk : S.1 803 = nI wk) (hwk1 : 1 ≤ wk) (hwk6 : wk ≤ 6){r m : Nat} (hr : r < 5) (hm : m ≤ 7) (kx : AW none MX3_chooseBest d 0 0 57 [.ref 29, .int (nI r), .int (nI m), .int (nI 120), .null, .null] [] (hp (cb1 V dn wk r S 120)) Po) : ∀ (n j : Nat), j + n = 120 → AW none MX3_chooseBest d 0 0 2 [.ref 29, .int (nI r), .int (nI m), .int (nI j), .null, .null] [] (hp (cb1 V dn wk r S j)) Po := by
  intro n
  induction n with
  | zero =>
    intro j hj
    rw [show j = 120 by omega]
    refine k_iload_n eX3_chooseBest_2 rfl ?_
    refine k_bipush (v := nI 120) eX3_chooseBest_3 (by decide) ?_
    refine k_icmp_geN 57 eX3_chooseBest_5 (by decide) (by omega) (by omega) (fun c_5 => ?_) (fun c_5 => by exfalso; omega)
    exact kx
  | succ n ih =>
    intro j hj
    obtain ⟨T, hT⟩ : ∃ T, cb1 V dn wk r S j = T := ⟨_, rfl⟩
    have hV : vC T = V := by rw [← hT]; exact (cb1_V V dn wk r S j).trans hV
    have hdn : T.1 1302 = nI dn := by rw [← hT]; exact (congrFun (cb1_1 V dn wk r S j) 1302).trans hdn
    have hwk : T.1 803 = nI wk := by rw [← hT]; exact (congrFun (cb1_1 V dn wk r S j) 803).trans hwk
    rw [hT]
    have hbs := bs_le V dn r j (wk - 1)
    refine k_iload_n eX3_chooseBest_2 rfl ?_
    refine k_bipush (v := nI 120) eX3_chooseBest_3 (by decide) ?_
    refine k_icmp_geN 57 eX3_chooseBest_5 (by decide) (by omega) (by omega) (fun c_5 => by exfalso; omega) (fun c_5 => ?_)
    refine k_aload_n eX3_chooseBest_8 rfl ?_
    refine k_iload_n eX3_chooseBest_9 rfl ?_
    refine k_iload_n eX3_chooseBest_10 rfl ?_
    refine cV1 (M' := MX3_bestOn) eX3_chooseBest_11 mX3_98 wX3_bestOn vX3_bestOn ⟨_, _, _, rfl, rfl, rfl⟩ rfl (pX3_bestOn (S := T) (V := V) (dn := dn) (wk := wk) (r := r) (dd := j) hV hdn hcd hwk hwk1 hwk6 (by omega) (by omega)) (by omega) (Nat.le_of_ble_eq_true rfl) ?_
    refine k_istore (L2 := [_, _, _, _, _, _]) eX3_chooseBest_14 (Nat.le_of_ble_eq_true rfl) rfl ?_
    refine k_aload_n eX3_chooseBest_16 rfl ?_
    refine GX3_9 eX3_chooseBest_17 rfl ?_
    refine k_iload_n eX3_chooseBest_20 rfl ?_
    refine k_iload eX3_chooseBest_21 rfl ?_
    refine cN0 (M' := MX11_write) eX3_chooseBest_23 mX3_102 wX11_write sX11_write rfl (pX11_writeN (j := j) (v := nI ((bs V dn r j (wk - 1)).1)) (ar30 _) (by omega) (by decide) (as30 _ _)) (by omega) (Nat.le_of_ble_eq_true rfl) ?_
    refine k_aload_n eX3_chooseBest_26 rfl ?_
    refine GX3_15 eX3_chooseBest_27 rfl ?_
    refine k_iload_n eX3_chooseBest_30 rfl ?_
    refine k_aload_n eX3_chooseBest_31 rfl ?_
    refine k_iload_n eX3_chooseBest_32 rfl ?_
    refine k_iload eX3_chooseBest_33 rfl ?_
    refine k_iload_n eX3_chooseBest_35 rfl ?_
    refine cV1 (M' := MX3_valueOf) eX3_chooseBest_36 mX3_94 wX3_valueOf vX3_valueOf ⟨_, _, _, rfl, rfl, rfl⟩ rfl (pX3_valueOf (S := (sa T 30 (va_up ((T).2.1 30) j (nI ((bs V dn r j (wk - 1)).1))))) (V := V) (dn := dn) (r := r) (w := ((bs V dn r j (wk - 1)).1)) (dd := j) hV hdn hcd (by omega) (by omega) (by omega)) (by omega) (Nat.le_of_ble_eq_true rfl) ?_
    refine cN0 (M' := MX11_write) eX3_chooseBest_39 mX3_102 wX11_write sX11_write rfl (pX11_writeN (j := j) (v := (wor V dn r ((bs V dn r j (wk - 1)).1) j)) (ar31 _) (by omega) (by decide) (as31 _ _)) (by omega) (Nat.le_of_ble_eq_true rfl) ?_
    refine k_aload_n eX3_chooseBest_42 rfl ?_
    refine GX3_18 eX3_chooseBest_43 rfl ?_
    refine k_iload_n eX3_chooseBest_46 rfl ?_
    refine k_iconst (v := nI 0) eX3_chooseBest_47 (by decide) ?_
    refine cN0 (M' := MX11_write) eX3_chooseBest_48 mX3_102 wX11_write sX11_write rfl (pX11_writeN (j := j) (v := nI 0) (ar32 _) (by omega) (by decide) (as32 _ _)) (by omega) (Nat.le_of_ble_eq_true rfl) ?_
    refine k_iincN (g := 1) (a := j) (L2 := [_, _, _, _, _, _]) eX3_chooseBest_51 (Nat.le_of_ble_eq_true rfl) rfl rfl ?_
    refine k_goto 2 eX3_chooseBest_54 (by decide) ?_
    refine k_forget 4 (L2 := [_, _, _, _, _, _]) rfl ?_
    have q := ih (j + 1) (by omega)
    rw [cb1, hT] at q
    exact q
set_option maxHeartbeats 400000 in
theorem lX3_cb3 {d : Nat} {Po : Option Value → k_H → Prop} (hdd : 3 ≤ d) {r m f0 : Nat} {p : k_S × Int32} (hm : m ≤ 7) (hf0 : f0 < 120) (kx : AW none MX3_chooseBest d 0 0 93 [.ref 29, .int (nI r), .int (nI m), .int ((wkT f0 p m).2), .int (nI f0), .int (nI m)] [] (hp (wkT f0 p m).1) Po) : ∀ (n j : Nat), j + n = m → AW none MX3_chooseBest d 0 0 72 [.ref 29, .int (nI r), .int (nI m), .int ((wkT f0 p j).2), .int (nI f0), .int (nI j)] [] (hp (wkT f0 p j).1) Po := by
  intro n
  induction n with
  | zero =>
    intro j hj
    rw [show j = m by omega]
    refine k_iload eX3_chooseBest_72 rfl ?_
    refine k_iload_n eX3_chooseBest_74 rfl ?_
    refine k_icmp_geN 93 eX3_chooseBest_75 (by decide) (by omega) (by omega) (fun c_75 => ?_) (fun c_75 => by exfalso; omega)
    exact kx
  | succ n ih =>
    intro j hj
    refine k_iload eX3_chooseBest_72 rfl ?_
    refine k_iload_n eX3_chooseBest_74 rfl ?_
    refine k_icmp_geN 93 eX3_chooseBest_75 (by decide) (by omega) (by omega) (fun c_75 => by exfalso; omega) (fun c_75 => ?_)
    refine k_iload_n eX3_chooseBest_78 rfl ?_
    refine k_aload_n eX3_chooseBest_79 rfl ?_
    refine k_iload eX3_chooseBest_80 rfl ?_
    refine cV1 (M' := MX3_chooseOne) eX3_chooseBest_82 mX3_106 wX3_chooseOne vX3_chooseOne ⟨_, _, _, rfl, rfl, rfl⟩ rfl (pX3_chooseOne (S := (wkT f0 p j).1) (f0 := f0) (by omega)) (by omega) (Nat.le_of_ble_eq_true rfl) ?_
    refine k_iadd eX3_chooseBest_85 ?_
    refine k_istore_n (L2 := [_, _, _, _, _, _]) eX3_chooseBest_86 (Nat.le_of_ble_eq_true rfl) rfl ?_
    refine k_iincN (g := 1) (a := j) (L2 := [_, _, _, _, _, _]) eX3_chooseBest_87 (Nat.le_of_ble_eq_true rfl) rfl rfl ?_
    refine k_goto 72 eX3_chooseBest_90 (by decide) ?_
    exact ih (j + 1) (by omega)
set_option maxHeartbeats 400000 in
theorem lX3_cb2 {d : Nat} {Po : Option Value → k_H → Prop} (hdd : 3 ≤ d) {r m : Nat} {p : k_S × Int32} (hm : m ≤ 7) (kx : AW none MX3_chooseBest d 0 0 99 [.ref 29, .int (nI r), .int (nI m), .int ((wkO m p 18).2), .int (nI 126), .null] [] (hp (wkO m p 18).1) Po) : ∀ (n j : Nat), j + n = 18 → AW none MX3_chooseBest d 0 0 62 [.ref 29, .int (nI r), .int (nI m), .int ((wkO m p j).2), .int (nI (7 * j)), .null] [] (hp (wkO m p j).1) Po := by
  intro n
  induction n with
  | zero =>
    intro j hj
    rw [show j = 18 by omega]
    refine k_iload eX3_chooseBest_62 rfl ?_
    refine k_bipush (v := nI 120) eX3_chooseBest_64 (by decide) ?_
    refine k_icmp_geN 99 eX3_chooseBest_66 (by decide) (by omega) (by omega) (fun c_66 => ?_) (fun c_66 => by exfalso; omega)
    exact kx
  | succ n ih =>
    intro j hj
    refine k_iload eX3_chooseBest_62 rfl ?_
    refine k_bipush (v := nI 120) eX3_chooseBest_64 (by decide) ?_
    refine k_icmp_geN 99 eX3_chooseBest_66 (by decide) (by omega) (by omega) (fun c_66 => by exfalso; omega) (fun c_66 => ?_)
    refine k_iconst (v := nI 0) eX3_chooseBest_69 (by decide) ?_
    refine k_istore (L2 := [_, _, _, _, _, _]) eX3_chooseBest_70 (Nat.le_of_ble_eq_true rfl) rfl ?_
    refine lX3_cb3 (by omega) (f0 := 7 * j) (p := wkO m p j) hm (by omega) ?_ m 0 (by omega)
    refine k_iincN (g := 7) (a := (7 * j)) (L2 := [_, _, _, _, _, _]) eX3_chooseBest_93 (Nat.le_of_ble_eq_true rfl) rfl rfl ?_
    refine k_goto 62 eX3_chooseBest_96 (by decide) ?_
    refine k_forget 5 (L2 := [_, _, _, _, _, _]) rfl ?_
    exact ih (j + 1) (by omega)
set_option maxHeartbeats 400000 in
theorem pX3_chooseBest {S : k_S} {V : k_V} (hV : vC S = V) {dn : Nat} (hdn : S.1 1302 = nI dn) (hcd : CntOk V dn) {wk : Nat} (hwk : S.1 803 = nI wk) (hwk1 : 1 ≤ wk) (hwk6 : wk ≤ 6){r m : Nat} (hr : r < 5) (hm : m ≤ 7) : Sp 5 0 0 MX3_chooseBest [.ref 29, .int (nI r), .int (nI m)] (hp S) (Rt (some (.int ((cbE V dn wk r m S).2))) (hp (cbE V dn wk r m S).1)) := by
  refine Sp_of (by decide +kernel) (Nat.le_of_ble_eq_true rfl) ?_
  show AW none MX3_chooseBest 5 0 0 0 [.ref 29, .int (nI r), .int (nI m), .null, .null, .null] [] (hp S) _
  refine k_iconst (v := nI 0) eX3_chooseBest_0 (by decide) ?_
  refine k_istore_n (L2 := [_, _, _, _, _, _]) eX3_chooseBest_1 (Nat.le_of_ble_eq_true rfl) rfl ?_
  refine lX3_cb1 (by decide) hV hdn hcd hwk hwk1 hwk6 hr hm ?_ 120 0 (by omega)
  refine k_iconst (v := nI 0) eX3_chooseBest_57 (by decide) ?_
  refine k_istore_n (L2 := [_, _, _, _, _, _]) eX3_chooseBest_58 (Nat.le_of_ble_eq_true rfl) rfl ?_
  refine k_iconst (v := nI 0) eX3_chooseBest_59 (by decide) ?_
  refine k_istore (L2 := [_, _, _, _, _, _]) eX3_chooseBest_60 (Nat.le_of_ble_eq_true rfl) rfl ?_
  refine lX3_cb2 (by decide) (p := (cb1 V dn wk r S 120, nI 0)) hm ?_ 18 0 (by omega)
  refine k_iload_n eX3_chooseBest_99 rfl ?_
  refine k_ireturn eX3_chooseBest_100 rfl rfl ?_
  exact ⟨rfl, rfl⟩
