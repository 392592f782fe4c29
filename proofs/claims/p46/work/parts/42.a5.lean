theorem dmN {n k : Nat} (h : n < 2 ^ 31) (h0 : 0 < k) (hk : k < 2 ^ 31) : nI n / nI k = nI (n / k) ∧ rm (nI n) (nI k) = nI (n % k) := ⟨pk_div h h0 hk, pk_rem h h0 hk⟩
theorem div_lt31 {n k : Nat} (h : n < 2 ^ 31) : n / k < 2 ^ 31 := Nat.lt_of_le_of_lt (Nat.div_le_self n k) h
theorem nI_ne {a b : Nat} (ha : a < 2 ^ 31) (hb : b < 2 ^ 31) (h : ¬ nI a = nI b) : a ≠ b := fun q => h (by rw [q])
/-- on how many of n days a is fitter than b -/
def alN (V : k_V) (a b : Nat) : Nat → Nat
  | 0 => 0
  | n + 1 => alN V a b n + if fitv V b n < fitv V a n then 1 else 0
theorem alN_le (V : k_V) (a b : Nat) : ∀ n, alN V a b n ≤ n
  | 0 => Nat.le_refl _
  | n + 1 => by have := alN_le V a b n; rw [alN]; split <;> omega
abbrev pAlk (kr x : Int32) : Prop := ¬ x < 0 ∧ pW kr (x / nI 10) ∧ pW kr (rm x (nI 10)) ∧ ¬ x / nI 10 = rm x (nI 10)
def aAlk (V : k_V) (kr x : Int32) : Int32 := if pAlk kr x then nI (alN V (ix (x / nI 10)) (ix (rm x (nI 10))) 120) else -1
theorem pAlk_ex {kr x : Int32} {rn : Nat} (h : pAlk kr x) (hk : kr = nI rn) (hrn : rn ≤ 5) : ∃ n, n < 2 ^ 31 ∧ x = nI n ∧ n / 10 < rn ∧ n % 10 < rn := by
  obtain ⟨n, h1, rfl⟩ := k_nneg h.1
  obtain ⟨_, h2, h3, _⟩ := h
  rw [(dmN h1 (by decide) (by decide)).1, hk, pW_N (by omega) (by omega)] at h2
  rw [(dmN h1 (by decide) (by decide)).2, hk, pW_N (by omega) (by omega)] at h3
  exact ⟨n, h1, rfl, h2, h3⟩
set_option maxHeartbeats 400000 in
theorem lX11_alike {d : Nat} {Po : Option Value → k_H → Prop} (hdd : 4 ≤ d) {S : k_S} {V : k_V} (hV : vC S = V) (hpl : PlanOk V) {z : Nat} (hz31 : z < 2 ^ 31) (hza : z / 10 < 5) (hzb : z % 10 < 5) (kx : AW none MX11_alike d 0 0 91 [.ref 0, .int (nI z), .int (nI (alN V (z / 10) (z % 10) 120)), .int (nI 120)] [] (hp S) Po) : ∀ (n j : Nat), j + n = 120 → AW none MX11_alike d 0 0 49 [.ref 0, .int (nI z), .int (nI (alN V (z / 10) (z % 10) j)), .int (nI j)] [] (hp S) Po := by
  intro n
  induction n with
  | zero =>
    intro j hj
    rw [show j = 120 by omega]
    refine k_iload_n eX11_alike_49 rfl ?_
    refine k_bipush (v := nI 120) eX11_alike_50 (by decide) ?_
    refine k_icmp_geN 91 eX11_alike_52 (by decide) (by omega) (by omega) (fun c_52 => ?_) (fun c_52 => by exfalso; omega)
    exact kx
  | succ n ih =>
    intro j hj
    refine k_iload_n eX11_alike_49 rfl ?_
    refine k_bipush (v := nI 120) eX11_alike_50 (by decide) ?_
    refine k_icmp_geN 91 eX11_alike_52 (by decide) (by omega) (by omega) (fun c_52 => by exfalso; omega) (fun c_52 => ?_)
    refine k_aload_n eX11_alike_55 rfl ?_
    refine GX11_83 eX11_alike_56 rfl ?_
    refine k_iload_n eX11_alike_59 rfl ?_
    refine k_bipush (v := nI 10) eX11_alike_60 (by decide) ?_
    refine k_idivN eX11_alike_62 (by omega) (by omega) (by omega) ?_
    refine k_iload_n eX11_alike_63 rfl ?_
    refine cV1 (M' := MX3_fitOn) eX11_alike_64 mX11_268 wX3_fitOn vX3_fitOn ⟨_, _, _, rfl, rfl, rfl⟩ rfl (pX3_fitOn (S := S) (V := V) (r := (z / 10)) (day := j) hV hpl (by omega) (by omega)) (by omega) (Nat.le_of_ble_eq_true rfl) ?_
    refine k_aload_n eX11_alike_67 rfl ?_
    refine GX11_83 eX11_alike_68 rfl ?_
    refine k_iload_n eX11_alike_71 rfl ?_
    refine k_bipush (v := nI 10) eX11_alike_72 (by decide) ?_
    refine k_iremN eX11_alike_74 (by omega) (by omega) (by omega) ?_
    refine k_iload_n eX11_alike_75 rfl ?_
    refine cV1 (M' := MX3_fitOn) eX11_alike_76 mX11_268 wX3_fitOn vX3_fitOn ⟨_, _, _, rfl, rfl, rfl⟩ rfl (pX3_fitOn (S := S) (V := V) (r := (z % 10)) (day := j) hV hpl (by omega) (by omega)) (by omega) (Nat.le_of_ble_eq_true rfl) ?_
    refine k_icmp_le 85 eX11_alike_79 (by decide) (fun c_79 => ?_) (fun c_79 => ?_)
    · refine k_iincN (g := 1) (a := j) (L2 := [_, _, _, _]) eX11_alike_85 (Nat.le_of_ble_eq_true rfl) rfl rfl ?_
      refine k_goto 49 eX11_alike_88 (by decide) ?_
      have q := ih (j + 1) (by omega)
      rw [alN] at q
      first | (rw [if_neg (Int32.not_lt.mpr c_79)] at q; exact q) | (rw [if_pos (Int32.not_le.mp c_79)] at q; exact q)
    refine k_iincN (g := 1) (a := (alN V (z / 10) (z % 10) j)) (L2 := [_, _, _, _]) eX11_alike_82 (Nat.le_of_ble_eq_true rfl) rfl rfl ?_
    refine k_iincN (g := 1) (a := j) (L2 := [_, _, _, _]) eX11_alike_85 (Nat.le_of_ble_eq_true rfl) rfl rfl ?_
    refine k_goto 49 eX11_alike_88 (by decide) ?_
    have q := ih (j + 1) (by omega)
    rw [alN] at q
    first | (rw [if_neg (Int32.not_lt.mpr c_79)] at q; exact q) | (rw [if_pos (Int32.not_le.mp c_79)] at q; exact q)
set_option maxHeartbeats 400000 in
theorem pX11_alike {S : k_S} {V : k_V} (hV : vC S = V) (hpl : PlanOk V) {rn : Nat} (hrn : S.1 1003 = nI rn) (hrn5 : rn ≤ 5) (x : Int32) : Sp 4 0 0 MX11_alike [.ref 0, .int (x)] (hp S) (Rt (some (.int (aAlk V (S.1 1003) x))) (hp S)) := by
  refine Sp_of (by decide +kernel) (Nat.le_of_ble_eq_true rfl) ?_
  show AW none MX11_alike 4 0 0 0 [.ref 0, .int (x), .null, .null] [] (hp S) _
  refine k_iload_n eX11_alike_0 rfl ?_
  refine k_if_lt 43 eX11_alike_1 (by decide) (fun c_1 => ?_) (fun c_1 => ?_)
  · refine k_iconst (v := (-1)) eX11_alike_43 (by decide) ?_
    refine k_ireturn eX11_alike_44 rfl rfl ?_
    exact ⟨by rw [aAlk, if_neg (fun q => by first | exact q.1 c_1 | exact c_15 q.2.1 | exact c_29 q.2.2.1 | exact q.2.2.2 c_40 | exact q.2.2.2 (Decidable.not_not.mp c_40))], rfl⟩
  refine k_aload_n eX11_alike_4 rfl ?_
  refine GX11_71 eX11_alike_5 rfl ?_
  refine k_iload_n eX11_alike_8 rfl ?_
  refine k_bipush (v := nI 10) eX11_alike_9 (by decide) ?_
  refine k_idiv eX11_alike_11 (by decide) ?_
  refine cV1 (M' := MX8_has) eX11_alike_12 mX11_175 wX8_has vX8_has ⟨_, _, _, rfl, rfl, rfl⟩ rfl (pX8_has (S := S) ((x / nI 10))) (by decide) (Nat.le_of_ble_eq_true rfl) ?_
  refine k_ifb_eq 43 eX11_alike_15 (by decide) (fun c_15 => ?_) (fun c_15 => ?_)
  · refine k_iconst (v := (-1)) eX11_alike_43 (by decide) ?_
    refine k_ireturn eX11_alike_44 rfl rfl ?_
    exact ⟨by rw [aAlk, if_neg (fun q => by first | exact q.1 c_1 | exact c_15 q.2.1 | exact c_29 q.2.2.1 | exact q.2.2.2 c_40 | exact q.2.2.2 (Decidable.not_not.mp c_40))], rfl⟩
  refine k_aload_n eX11_alike_18 rfl ?_
  refine GX11_71 eX11_alike_19 rfl ?_
  refine k_iload_n eX11_alike_22 rfl ?_
  refine k_bipush (v := nI 10) eX11_alike_23 (by decide) ?_
  refine k_irem eX11_alike_25 (by decide) ?_
  refine cV1 (M' := MX8_has) eX11_alike_26 mX11_175 wX8_has vX8_has ⟨_, _, _, rfl, rfl, rfl⟩ rfl (pX8_has (S := S) ((x - x / nI 10 * nI 10))) (by decide) (Nat.le_of_ble_eq_true rfl) ?_
  refine k_ifb_eq 43 eX11_alike_29 (by decide) (fun c_29 => ?_) (fun c_29 => ?_)
  · refine k_iconst (v := (-1)) eX11_alike_43 (by decide) ?_
    refine k_ireturn eX11_alike_44 rfl rfl ?_
    exact ⟨by rw [aAlk, if_neg (fun q => by first | exact q.1 c_1 | exact c_15 q.2.1 | exact c_29 q.2.2.1 | exact q.2.2.2 c_40 | exact q.2.2.2 (Decidable.not_not.mp c_40))], rfl⟩
  refine k_iload_n eX11_alike_32 rfl ?_
  refine k_bipush (v := nI 10) eX11_alike_33 (by decide) ?_
  refine k_idiv eX11_alike_35 (by decide) ?_
  refine k_iload_n eX11_alike_36 rfl ?_
  refine k_bipush (v := nI 10) eX11_alike_37 (by decide) ?_
  refine k_irem eX11_alike_39 (by decide) ?_
  refine k_icmp_ne 45 eX11_alike_40 (by decide) (fun c_40 => ?_) (fun c_40 => ?_)
  · have hC : pAlk (S.1 1003) x := ⟨c_1, c_15, c_29, c_40⟩
    obtain ⟨z, hz31, rfl, hza, hzb⟩ := pAlk_ex hC hrn hrn5
    refine k_iconst (v := nI 0) eX11_alike_45 (by decide) ?_
    refine k_istore_n (L2 := [_, _, _, _]) eX11_alike_46 (Nat.le_of_ble_eq_true rfl) rfl ?_
    refine k_iconst (v := nI 0) eX11_alike_47 (by decide) ?_
    refine k_istore_n (L2 := [_, _, _, _]) eX11_alike_48 (Nat.le_of_ble_eq_true rfl) rfl ?_
    refine lX11_alike (by decide) hV hpl hz31 (by omega) (by omega) ?_ 120 0 (by omega)
    refine k_iload_n eX11_alike_91 rfl ?_
    refine k_ireturn eX11_alike_92 rfl rfl ?_
    exact ⟨by rw [aAlk, if_pos hC, (dmN hz31 (by decide) (by decide)).1, (dmN hz31 (by decide) (by decide)).2, ix_nI (by omega), ix_nI (by omega)], rfl⟩
  refine k_iconst (v := (-1)) eX11_alike_43 (by decide) ?_
  refine k_ireturn eX11_alike_44 rfl rfl ?_
  exact ⟨by rw [aAlk, if_neg (fun q => by first | exact q.1 c_1 | exact c_15 q.2.1 | exact c_29 q.2.2.1 | exact q.2.2.2 c_40 | exact q.2.2.2 (Decidable.not_not.mp c_40))], rfl⟩
