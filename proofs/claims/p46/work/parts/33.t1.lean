/-- nothing has changed but ints I, rows A, long rows J -/
def Frm (I A J : List Nat) (S T : k_S) : Prop := (∀ k, k ∉ I → T.1 k = S.1 k) ∧ (∀ a, a ∉ A → T.2.1 a = S.2.1 a) ∧ ∀ a, a ∉ J → T.2.2 a = S.2.2 a
theorem Frm.rf {I A J : List Nat} (S : k_S) : Frm I A J S S := ⟨fun _ _ => rfl, fun _ _ => rfl, fun _ _ => rfl⟩
theorem Frm.tr {I A J : List Nat} {S T U : k_S} (h : Frm I A J S T) (h2 : Frm I A J T U) : Frm I A J S U := ⟨fun k hk => (h2.1 k hk).trans (h.1 k hk), fun k hk => (h2.2.1 k hk).trans (h.2.1 k hk), fun k hk => (h2.2.2 k hk).trans (h.2.2 k hk)⟩
theorem Frm.wk {I A J I2 A2 J2 : List Nat} {S T : k_S} (h : Frm I A J S T) (h1 : ∀ k ∈ I, k ∈ I2) (h2 : ∀ k ∈ A, k ∈ A2) (h3 : ∀ k ∈ J, k ∈ J2) : Frm I2 A2 J2 S T := ⟨fun k hk => h.1 k (fun q => hk (h1 k q)), fun k hk => h.2.1 k (fun q => hk (h2 k q)), fun k hk => h.2.2 k (fun q => hk (h3 k q))⟩
theorem Frm.si {I A J : List Nat} {S T : k_S} (h : Frm I A J S T) {k : Nat} (hk : k ∈ I) (v : Int32) : Frm I A J S (si T k v) := ⟨fun j hj => by show va_up T.1 k v j = _; rw [va_up, if_neg (fun q : j = k => hj (by rw [q]; exact hk))]; exact h.1 j hj, h.2.1, h.2.2⟩
theorem Frm.sa {I A J : List Nat} {S T : k_S} (h : Frm I A J S T) {a : Nat} (ha : a ∈ A) (f : Nat → Int32) : Frm I A J S (sa T a f) := ⟨h.1, fun j hj => by show va_up T.2.1 a f j = _; rw [va_up, if_neg (fun q : j = a => hj (by rw [q]; exact ha))]; exact h.2.1 j hj, h.2.2⟩
theorem Frm.sj {I A J : List Nat} {S T : k_S} (h : Frm I A J S T) {a : Nat} (ha : a ∈ J) (f : Nat → Int64) : Frm I A J S (sj T a f) := ⟨h.1, h.2.1, fun j hj => by show va_up T.2.2 a f j = _; rw [va_up, if_neg (fun q : j = a => hj (by rw [q]; exact ha))]; exact h.2.2 j hj⟩
def bcS39 (S : k_S) : Nat → k_S
  | 0 => si S 1951 (S.1 51)
  | n + 1 => sa (bcS39 S n) 40 (va_up ((bcS39 S n).2.1 40) n (S.2.1 2 n))
theorem bcS39_1 (S : k_S) : ∀ n, (bcS39 S n).1 = (si S 1951 (S.1 51)).1
  | 0 => rfl
  | n + 1 => bcS39_1 S n
theorem bcS39_3 (S : k_S) : ∀ n, (bcS39 S n).2.2 = S.2.2
  | 0 => rfl
  | n + 1 => bcS39_3 S n
theorem bcS39_2 (S : k_S) {k : Nat} (h : k ≠ 40) : ∀ n, (bcS39 S n).2.1 k = S.2.1 k
  | 0 => rfl
  | n + 1 => by rw [bcS39]; simp only [sa, va_up, if_neg h]; exact bcS39_2 S h n
theorem bcS39_c (S : k_S) : ∀ n, (bcS39 S n).2.1 40 = fillN (S.2.1 2) (S.2.1 40) n
  | 0 => rfl
  | n + 1 => by rw [fillN, ← bcS39_c S n]; rfl
set_option maxHeartbeats 400000 in
theorem lX9_become39 {d : Nat} {Po : Option Value → k_H → Prop} (hdd : 1 ≤ d) {S : k_S} {n0 : Nat} (hn : S.1 51 = nI n0) (hn0 : n0 ≤ 240) (kx : AW none MX9_become d 0 0 40 [.ref 39, .ref 1, .int (nI n0)] [] (hp (bcS39 S n0)) Po) : ∀ (n j : Nat), j + n = n0 → AW none MX9_become d 0 0 10 [.ref 39, .ref 1, .int (nI j)] [] (hp (bcS39 S j)) Po := by
  intro n
  induction n with
  | zero =>
    intro j hj
    rw [show j = n0 by omega]
    refine k_iload_n eX9_become_10 rfl ?_
    refine k_aload_n eX9_become_11 rfl ?_
    refine GX9_15_39 eX9_become_12 rfl ?_
    refine k_topi (nI n0) ((congrFun (bcS39_1 S n0) 1951).trans hn) ?_
    refine k_icmp_geN 40 eX9_become_15 (by decide) (by omega) (by omega) (fun c_15 => ?_) (fun c_15 => by exfalso; omega)
    exact kx
  | succ n ih =>
    intro j hj
    obtain ⟨T, hT⟩ : ∃ T, bcS39 S j = T := ⟨_, rfl⟩
    have hTn : T.1 1951 = nI n0 := by rw [← hT]; exact (congrFun (bcS39_1 S j) 1951).trans hn
    have hT2 : T.2.1 2 = S.2.1 2 := by rw [← hT]; exact bcS39_2 S (by decide) j
    rw [hT]
    refine k_iload_n eX9_become_10 rfl ?_
    refine k_aload_n eX9_become_11 rfl ?_
    refine GX9_15_39 eX9_become_12 rfl ?_
    refine k_topi (nI n0) hTn ?_
    refine k_icmp_geN 40 eX9_become_15 (by decide) (by omega) (by omega) (fun c_15 => by exfalso; omega) (fun c_15 => ?_)
    refine k_aload_n eX9_become_18 rfl ?_
    refine GX9_9_39 eX9_become_19 rfl ?_
    refine k_iload_n eX9_become_22 rfl ?_
    refine k_aload_n eX9_become_23 rfl ?_
    refine GX9_25 eX9_become_24 rfl ?_
    refine k_iload_n eX9_become_27 rfl ?_
    refine cN1 (M' := MX11_read) eX9_become_28 mX9_26 wX11_read sX11_read rfl (pX11_readN (j := j) (ar2 _) (by omega) (by decide)) (by omega) (Nat.le_of_ble_eq_true rfl) ?_
    refine k_topi ((S.2.1 2 j)) (congrFun hT2 j) ?_
    refine cN0 (M' := MX11_write) eX9_become_31 mX9_30 wX11_write sX11_write rfl (pX11_writeN (j := j) (v := (S.2.1 2 j)) (ar40 _) (by omega) (by decide) (as40 _ _)) (by omega) (Nat.le_of_ble_eq_true rfl) ?_
    refine k_iincN (g := 1) (a := j) (L2 := [_, _, _]) eX9_become_34 (Nat.le_of_ble_eq_true rfl) rfl rfl ?_
    refine k_goto 10 eX9_become_37 (by decide) ?_
    have q := ih (j + 1) (by omega)
    rw [bcS39, hT] at q
    exact q
set_option maxHeartbeats 400000 in
theorem pX9_become39 {S : k_S} {n0 : Nat} (hn : S.1 51 = nI n0) (hn0 : n0 ≤ 240) : Sp 1 0 0 MX9_become [.ref 39, .ref 1] (hp S) (Rt (none) (hp (bcS39 S n0))) := by
  refine Sp_of (by decide +kernel) (Nat.le_of_ble_eq_true rfl) ?_
  show AW none MX9_become 1 0 0 0 [.ref 39, .ref 1, .null] [] (hp S) _
  refine k_aload_n eX9_become_0 rfl ?_
  refine k_aload_n eX9_become_1 rfl ?_
  refine GX9_22 eX9_become_2 rfl ?_
  refine PX9_15_39 eX9_become_5 rfl ?_
  refine k_iconst (v := nI 0) eX9_become_8 (by decide) ?_
  refine k_istore_n (L2 := [_, _, _]) eX9_become_9 (Nat.le_of_ble_eq_true rfl) rfl ?_
  refine lX9_become39 (by decide) (S := S) hn hn0 ?_ n0 0 (by omega)
  refine k_return eX9_become_40 rfl ?_
  exact ⟨rfl, rfl⟩
def bcS42 (S : k_S) : Nat → k_S
  | 0 => si S 2101 (S.1 51)
  | n + 1 => sa (bcS42 S n) 43 (va_up ((bcS42 S n).2.1 43) n (S.2.1 2 n))
theorem bcS42_1 (S : k_S) : ∀ n, (bcS42 S n).1 = (si S 2101 (S.1 51)).1
  | 0 => rfl
  | n + 1 => bcS42_1 S n
theorem bcS42_3 (S : k_S) : ∀ n, (bcS42 S n).2.2 = S.2.2
  | 0 => rfl
  | n + 1 => bcS42_3 S n
theorem bcS42_2 (S : k_S) {k : Nat} (h : k ≠ 43) : ∀ n, (bcS42 S n).2.1 k = S.2.1 k
  | 0 => rfl
  | n + 1 => by rw [bcS42]; simp only [sa, va_up, if_neg h]; exact bcS42_2 S h n
theorem bcS42_c (S : k_S) : ∀ n, (bcS42 S n).2.1 43 = fillN (S.2.1 2) (S.2.1 43) n
  | 0 => rfl
  | n + 1 => by rw [fillN, ← bcS42_c S n]; rfl
set_option maxHeartbeats 400000 in
theorem lX9_become42 {d : Nat} {Po : Option Value → k_H → Prop} (hdd : 1 ≤ d) {S : k_S} {n0 : Nat} (hn : S.1 51 = nI n0) (hn0 : n0 ≤ 240) (kx : AW none MX9_become d 0 0 40 [.ref 42, .ref 1, .int (nI n0)] [] (hp (bcS42 S n0)) Po) : ∀ (n j : Nat), j + n = n0 → AW none MX9_become d 0 0 10 [.ref 42, .ref 1, .int (nI j)] [] (hp (bcS42 S j)) Po := by
  intro n
  induction n with
  | zero =>
    intro j hj
    rw [show j = n0 by omega]
    refine k_iload_n eX9_become_10 rfl ?_
    refine k_aload_n eX9_become_11 rfl ?_
    refine GX9_15_42 eX9_become_12 rfl ?_
    refine k_topi (nI n0) ((congrFun (bcS42_1 S n0) 2101).trans hn) ?_
    refine k_icmp_geN 40 eX9_become_15 (by decide) (by omega) (by omega) (fun c_15 => ?_) (fun c_15 => by exfalso; omega)
    exact kx
  | succ n ih =>
    intro j hj
    obtain ⟨T, hT⟩ : ∃ T, bcS42 S j = T := ⟨_, rfl⟩
    have hTn : T.1 2101 = nI n0 := by rw [← hT]; exact (congrFun (bcS42_1 S j) 2101).trans hn
    have hT2 : T.2.1 2 = S.2.1 2 := by rw [← hT]; exact bcS42_2 S (by decide) j
    rw [hT]
    refine k_iload_n eX9_become_10 rfl ?_
    refine k_aload_n eX9_become_11 rfl ?_
    refine GX9_15_42 eX9_become_12 rfl ?_
    refine k_topi (nI n0) hTn ?_
    refine k_icmp_geN 40 eX9_become_15 (by decide) (by omega) (by omega) (fun c_15 => by exfalso; omega) (fun c_15 => ?_)
    refine k_aload_n eX9_become_18 rfl ?_
    refine GX9_9_42 eX9_become_19 rfl ?_
    refine k_iload_n eX9_become_22 rfl ?_
    refine k_aload_n eX9_become_23 rfl ?_
    refine GX9_25 eX9_become_24 rfl ?_
    refine k_iload_n eX9_become_27 rfl ?_
    refine cN1 (M' := MX11_read) eX9_become_28 mX9_26 wX11_read sX11_read rfl (pX11_readN (j := j) (ar2 _) (by omega) (by decide)) (by omega) (Nat.le_of_ble_eq_true rfl) ?_
    refine k_topi ((S.2.1 2 j)) (congrFun hT2 j) ?_
    refine cN0 (M' := MX11_write) eX9_become_31 mX9_30 wX11_write sX11_write rfl (pX11_writeN (j := j) (v := (S.2.1 2 j)) (ar43 _) (by omega) (by decide) (as43 _ _)) (by omega) (Nat.le_of_ble_eq_true rfl) ?_
    refine k_iincN (g := 1) (a := j) (L2 := [_, _, _]) eX9_become_34 (Nat.le_of_ble_eq_true rfl) rfl rfl ?_
    refine k_goto 10 eX9_become_37 (by decide) ?_
    have q := ih (j + 1) (by omega)
    rw [bcS42, hT] at q
    exact q
set_option maxHeartbeats 400000 in
theorem pX9_become42 {S : k_S} {n0 : Nat} (hn : S.1 51 = nI n0) (hn0 : n0 ≤ 240) : Sp 1 0 0 MX9_become [.ref 42, .ref 1] (hp S) (Rt (none) (hp (bcS42 S n0))) := by
  refine Sp_of (by decide +kernel) (Nat.le_of_ble_eq_true rfl) ?_
  show AW none MX9_become 1 0 0 0 [.ref 42, .ref 1, .null] [] (hp S) _
  refine k_aload_n eX9_become_0 rfl ?_
  refine k_aload_n eX9_become_1 rfl ?_
  refine GX9_22 eX9_become_2 rfl ?_
  refine PX9_15_42 eX9_become_5 rfl ?_
  refine k_iconst (v := nI 0) eX9_become_8 (by decide) ?_
  refine k_istore_n (L2 := [_, _, _]) eX9_become_9 (Nat.le_of_ble_eq_true rfl) rfl ?_
  refine lX9_become42 (by decide) (S := S) hn hn0 ?_ n0 0 (by omega)
  refine k_return eX9_become_40 rfl ?_
  exact ⟨rfl, rfl⟩
def bcS45 (S : k_S) : Nat → k_S
  | 0 => si S 2251 (S.1 51)
  | n + 1 => sa (bcS45 S n) 46 (va_up ((bcS45 S n).2.1 46) n (S.2.1 2 n))
theorem bcS45_1 (S : k_S) : ∀ n, (bcS45 S n).1 = (si S 2251 (S.1 51)).1
  | 0 => rfl
  | n + 1 => bcS45_1 S n
theorem bcS45_3 (S : k_S) : ∀ n, (bcS45 S n).2.2 = S.2.2
  | 0 => rfl
  | n + 1 => bcS45_3 S n
theorem bcS45_2 (S : k_S) {k : Nat} (h : k ≠ 46) : ∀ n, (bcS45 S n).2.1 k = S.2.1 k
  | 0 => rfl
  | n + 1 => by rw [bcS45]; simp only [sa, va_up, if_neg h]; exact bcS45_2 S h n
theorem bcS45_c (S : k_S) : ∀ n, (bcS45 S n).2.1 46 = fillN (S.2.1 2) (S.2.1 46) n
  | 0 => rfl
  | n + 1 => by rw [fillN, ← bcS45_c S n]; rfl
set_option maxHeartbeats 400000 in
theorem lX9_become45 {d : Nat} {Po : Option Value → k_H → Prop} (hdd : 1 ≤ d) {S : k_S} {n0 : Nat} (hn : S.1 51 = nI n0) (hn0 : n0 ≤ 240) (kx : AW none MX9_become d 0 0 40 [.ref 45, .ref 1, .int (nI n0)] [] (hp (bcS45 S n0)) Po) : ∀ (n j : Nat), j + n = n0 → AW none MX9_become d 0 0 10 [.ref 45, .ref 1, .int (nI j)] [] (hp (bcS45 S j)) Po := by
  intro n
  induction n with
  | zero =>
    intro j hj
    rw [show j = n0 by omega]
    refine k_iload_n eX9_become_10 rfl ?_
    refine k_aload_n eX9_become_11 rfl ?_
    refine GX9_15_45 eX9_become_12 rfl ?_
    refine k_topi (nI n0) ((congrFun (bcS45_1 S n0) 2251).trans hn) ?_
    refine k_icmp_geN 40 eX9_become_15 (by decide) (by omega) (by omega) (fun c_15 => ?_) (fun c_15 => by exfalso; omega)
    exact kx
  | succ n ih =>
    intro j hj
    obtain ⟨T, hT⟩ : ∃ T, bcS45 S j = T := ⟨_, rfl⟩
    have hTn : T.1 2251 = nI n0 := by rw [← hT]; exact (congrFun (bcS45_1 S j) 2251).trans hn
    have hT2 : T.2.1 2 = S.2.1 2 := by rw [← hT]; exact bcS45_2 S (by decide) j
    rw [hT]
    refine k_iload_n eX9_become_10 rfl ?_
    refine k_aload_n eX9_become_11 rfl ?_
    refine GX9_15_45 eX9_become_12 rfl ?_
    refine k_topi (nI n0) hTn ?_
    refine k_icmp_geN 40 eX9_become_15 (by decide) (by omega) (by omega) (fun c_15 => by exfalso; omega) (fun c_15 => ?_)
    refine k_aload_n eX9_become_18 rfl ?_
    refine GX9_9_45 eX9_become_19 rfl ?_
    refine k_iload_n eX9_become_22 rfl ?_
    refine k_aload_n eX9_become_23 rfl ?_
    refine GX9_25 eX9_become_24 rfl ?_
    refine k_iload_n eX9_become_27 rfl ?_
    refine cN1 (M' := MX11_read) eX9_become_28 mX9_26 wX11_read sX11_read rfl (pX11_readN (j := j) (ar2 _) (by omega) (by decide)) (by omega) (Nat.le_of_ble_eq_true rfl) ?_
    refine k_topi ((S.2.1 2 j)) (congrFun hT2 j) ?_
    refine cN0 (M' := MX11_write) eX9_become_31 mX9_30 wX11_write sX11_write rfl (pX11_writeN (j := j) (v := (S.2.1 2 j)) (ar46 _) (by omega) (by decide) (as46 _ _)) (by omega) (Nat.le_of_ble_eq_true rfl) ?_
    refine k_iincN (g := 1) (a := j) (L2 := [_, _, _]) eX9_become_34 (Nat.le_of_ble_eq_true rfl) rfl rfl ?_
    refine k_goto 10 eX9_become_37 (by decide) ?_
    have q := ih (j + 1) (by omega)
    rw [bcS45, hT] at q
    exact q
set_option maxHeartbeats 400000 in
theorem pX9_become45 {S : k_S} {n0 : Nat} (hn : S.1 51 = nI n0) (hn0 : n0 ≤ 240) : Sp 1 0 0 MX9_become [.ref 45, .ref 1] (hp S) (Rt (none) (hp (bcS45 S n0))) := by
  refine Sp_of (by decide +kernel) (Nat.le_of_ble_eq_true rfl) ?_
  show AW none MX9_become 1 0 0 0 [.ref 45, .ref 1, .null] [] (hp S) _
  refine k_aload_n eX9_become_0 rfl ?_
  refine k_aload_n eX9_become_1 rfl ?_
  refine GX9_22 eX9_become_2 rfl ?_
  refine PX9_15_45 eX9_become_5 rfl ?_
  refine k_iconst (v := nI 0) eX9_become_8 (by decide) ?_
  refine k_istore_n (L2 := [_, _, _]) eX9_become_9 (Nat.le_of_ble_eq_true rfl) rfl ?_
  refine lX9_become45 (by decide) (S := S) hn hn0 ?_ n0 0 (by omega)
  refine k_return eX9_become_40 rfl ?_
  exact ⟨rfl, rfl⟩
