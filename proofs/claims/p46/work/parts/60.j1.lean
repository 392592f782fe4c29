/-! THE JDK's own methods: a builder (class 1) in place a, its bytes in place p; a text of the heap (class 0); texts of the pool -/
theorem shl0 (x : Int32) : x <<< (nI 0 &&& 31) = x := sb_shl0 x
theorem shr0 (x : Int32) : x >>> (nI 0 &&& 31) = x := sb_shr0 x
theorem gs_eq {h : k_H} {a : Nat} {e : k_E} (ha : a < h.length) : (h.set a e)[a]? = some e := by rw [List.getElem?_set_self ha]
theorem gs_ne {h : k_H} {a k : Nat} {e x : k_E} (hk : h[k]? = some x) (hn : a ≠ k) : (h.set a e)[k]? = some x := by rw [List.getElem?_set_ne hn]; exact hk
theorem g_lt {h : k_H} {a : Nat} {e : k_E} (ha : h[a]? = some e) : a < h.length := (List.getElem?_eq_some_iff.mp ha).1
theorem ga_l {h : k_H} {k : Nat} {e x : k_E} (hk : h[k]? = some x) : (h ++ [e])[k]? = some x := by rw [List.getElem?_append_left (g_lt hk)]; exact hk
theorem ga_e {h : k_H} {e : k_E} : (h ++ [e])[h.length]? = some e := by rw [List.getElem?_append_right (Nat.le_refl _), Nat.sub_self]; rfl
/-- the first b places are as they were -/
def Kp (b : Nat) (h h' : k_H) : Prop := b ≤ h'.length ∧ ∀ k, k < b → h'[k]? = h[k]?
theorem Kp.rf {b : Nat} {h : k_H} (hb : b ≤ h.length) : Kp b h h := ⟨hb, fun _ _ => rfl⟩
theorem Kp.tr {b : Nat} {h h1 h2 : k_H} (q : Kp b h h1) (r : Kp b h1 h2) : Kp b h h2 := ⟨r.1, fun k hk => (r.2 k hk).trans (q.2 k hk)⟩
theorem Kp.set {b a : Nat} {h h1 : k_H} {e : k_E} (q : Kp b h h1) (ha : b ≤ a) : Kp b h (h1.set a e) := ⟨by rw [List.length_set]; exact q.1, fun k hk => by rw [List.getElem?_set_ne (by omega)]; exact q.2 k hk⟩
theorem Kp.app {b : Nat} {h h1 : k_H} {e : k_E} (q : Kp b h h1) : Kp b h (h1 ++ [e]) := ⟨by rw [List.length_append]; have := q.1; omega, fun k hk => by rw [List.getElem?_append_left (Nat.lt_of_lt_of_le hk q.1)]; exact q.2 k hk⟩
/-- a builder in place a, of n bytes, with room for q; all of it behind b -/
def SBh (b a n q : Nat) (h : k_H) : Prop := b ≤ a ∧ ∃ (p : Nat) (f : Nat → Int32), b ≤ p ∧ h[a]? = some (.inr (1, [.ref p, .int 0, .int 0, .int (nI n)])) ∧ h[p]? = some (.inl (q, .inr (.inr f))) ∧ sb_Fit f
theorem sub_nneg9 {a b : Nat} (ha : a < 2 ^ 30) (hb : b < 2 ^ 30) : (nI a - nI b ≤ 0) ↔ a ≤ b := by
  rw [Int32.le_iff_toInt_le, pk_sub_toInt ha hb, show (0 : Int32).toInt = 0 from by decide]; omega
theorem ap_ne {h : k_H} {a p n : Nat} {c : Nat} {fs : List Value} {y : (Nat → Int32) ⊕ ((Nat → Int64) ⊕ (Nat → Int32))} (h1 : h[a]? = some (.inr (c, fs))) (h2 : h[p]? = some (.inl (n, y))) : a ≠ p := fun e => by subst e; rw [h1] at h2; cases h2
set_option maxHeartbeats 1000000 in
theorem pJ5_isLatin1 {h : k_H} {a p n : Nat} (ha : h[a]? = some (.inr (1, [.ref p, .int 0, .int 0, .int (nI n)]))) : Sp 0 0 0 MJ5_isLatin1_aae02 [.ref a] h (Rt (some (.int (nI 1))) h) := by
  refine Sp_of (by decide +kernel) (Nat.le_of_ble_eq_true rfl) ?_
  show AW none MJ5_isLatin1_aae02 0 0 0 0 [.ref a] [] h _
  refine k_getsC eJ5_isLatin1_aae02_0 fJ5_18 ?_
  refine k_topi (nI 1) rfl ?_
  refine k_if_eqN 17 eJ5_isLatin1_aae02_3 (by decide) (by omega) (fun c_3 => by exfalso; omega) (fun c_3 => ?_)
  refine k_aload_n eJ5_isLatin1_aae02_6 rfl ?_
  refine k_get eJ5_isLatin1_aae02_7 clJ4 (j := 1) fJ5_22 ha rfl ?_
  refine k_topi (nI 0) rfl ?_
  refine k_if_neN 17 eJ5_isLatin1_aae02_10 (by decide) (by omega) (fun c_10 => by exfalso; omega) (fun c_10 => ?_)
  refine k_iconst (v := nI 1) eJ5_isLatin1_aae02_13 (by decide) ?_
  refine k_goto 18 eJ5_isLatin1_aae02_14 (by decide) ?_
  refine k_ireturn eJ5_isLatin1_aae02_18 rfl rfl ?_
  exact ⟨rfl, rfl⟩
set_option maxHeartbeats 1000000 in
theorem pJ5_getValue {h : k_H} {a p n : Nat} (ha : h[a]? = some (.inr (1, [.ref p, .int 0, .int 0, .int (nI n)]))) : Sp 0 0 0 MJ5_getValue_6d5f1 [.ref a] h (Rt (some (.ref p)) h) := by
  refine Sp_of (by decide +kernel) (Nat.le_of_ble_eq_true rfl) ?_
  show AW none MJ5_getValue_6d5f1 0 0 0 0 [.ref a] [] h _
  refine k_aload_n eJ5_getValue_6d5f1_0 rfl ?_
  refine k_get eJ5_getValue_6d5f1_1 clJ4 (j := 0) fJ5_15 ha rfl ?_
  refine k_areturn eJ5_getValue_6d5f1_4 rfl (Or.inr ⟨_, rfl⟩) ?_
  exact ⟨rfl, rfl⟩
set_option maxHeartbeats 1000000 in
theorem pJ5_length {h : k_H} {a p n : Nat} (ha : h[a]? = some (.inr (1, [.ref p, .int 0, .int 0, .int (nI n)]))) : Sp 0 0 0 MJ5_length_8abf5 [.ref a] h (Rt (some (.int (nI n))) h) := by
  refine Sp_of (by decide +kernel) (Nat.le_of_ble_eq_true rfl) ?_
  show AW none MJ5_length_8abf5 0 0 0 0 [.ref a] [] h _
  refine k_aload_n eJ5_length_8abf5_0 rfl ?_
  refine k_get eJ5_length_8abf5_1 clJ4 (j := 3) fJ5_79 ha rfl ?_
  refine k_ireturn eJ5_length_8abf5_4 rfl rfl ?_
  exact ⟨rfl, rfl⟩
set_option maxHeartbeats 1000000 in
theorem pJ0_coderK {h : k_H} {i : Nat} (hi : i < 4) : Sp 0 0 0 MJ0_coder_7d493 [.retAddr (10 + i)] h (Rt (some (.int (nI 0))) h) := by
  refine Sp_of (by decide +kernel) (Nat.le_of_ble_eq_true rfl) ?_
  show AW none MJ0_coder_7d493 0 0 0 0 [.retAddr (10 + i)] [] h _
  refine k_getsC eJ0_coder_7d493_0 fJ0_38 ?_
  refine k_topi (nI 1) rfl ?_
  refine k_if_eqN 13 eJ0_coder_7d493_3 (by decide) (by omega) (fun c_3 => by exfalso; omega) (fun c_3 => ?_)
  refine k_aloadT eJ0_coder_7d493_6 rfl ?_
  refine k_getKc (i := i) eJ0_coder_7d493_7 hi fJ0_15.2 ?_
  refine k_topi (nI 0) rfl ?_
  refine k_goto 14 eJ0_coder_7d493_10 (by decide) ?_
  refine k_ireturn eJ0_coder_7d493_14 rfl rfl ?_
  exact ⟨rfl, rfl⟩
set_option maxHeartbeats 1000000 in
theorem pJ0_coder {h : k_H} {sa va : Nat} {x y : Int32} (hs : h[sa]? = some (.inr (0, [.ref va, .int 0, .int x, .int y]))) : Sp 0 0 0 MJ0_coder_7d493 [.ref sa] h (Rt (some (.int (nI 0))) h) := by
  refine Sp_of (by decide +kernel) (Nat.le_of_ble_eq_true rfl) ?_
  show AW none MJ0_coder_7d493 0 0 0 0 [.ref sa] [] h _
  refine k_getsC eJ0_coder_7d493_0 fJ0_38 ?_
  refine k_topi (nI 1) rfl ?_
  refine k_if_eqN 13 eJ0_coder_7d493_3 (by decide) (by omega) (fun c_3 => by exfalso; omega) (fun c_3 => ?_)
  refine k_aload_n eJ0_coder_7d493_6 rfl ?_
  refine k_get eJ0_coder_7d493_7 clJ0 (j := 1) fJ0_15 hs rfl ?_
  refine k_topi (nI 0) rfl ?_
  refine k_goto 14 eJ0_coder_7d493_10 (by decide) ?_
  refine k_ireturn eJ0_coder_7d493_14 rfl rfl ?_
  exact ⟨rfl, rfl⟩
set_option maxHeartbeats 1000000 in
theorem pJ0_isLatin1 {h : k_H} {sa va : Nat} {x y : Int32} (hs : h[sa]? = some (.inr (0, [.ref va, .int 0, .int x, .int y]))) : Sp 0 0 0 MJ0_isLatin1_aae02 [.ref sa] h (Rt (some (.int (nI 1))) h) := by
  refine Sp_of (by decide +kernel) (Nat.le_of_ble_eq_true rfl) ?_
  show AW none MJ0_isLatin1_aae02 0 0 0 0 [.ref sa] [] h _
  refine k_getsC eJ0_isLatin1_aae02_0 fJ0_38 ?_
  refine k_topi (nI 1) rfl ?_
  refine k_if_eqN 17 eJ0_isLatin1_aae02_3 (by decide) (by omega) (fun c_3 => by exfalso; omega) (fun c_3 => ?_)
  refine k_aload_n eJ0_isLatin1_aae02_6 rfl ?_
  refine k_get eJ0_isLatin1_aae02_7 clJ0 (j := 1) fJ0_15 hs rfl ?_
  refine k_topi (nI 0) rfl ?_
  refine k_if_neN 17 eJ0_isLatin1_aae02_10 (by decide) (by omega) (fun c_10 => by exfalso; omega) (fun c_10 => ?_)
  refine k_iconst (v := nI 1) eJ0_isLatin1_aae02_13 (by decide) ?_
  refine k_goto 18 eJ0_isLatin1_aae02_14 (by decide) ?_
  refine k_ireturn eJ0_isLatin1_aae02_18 rfl rfl ?_
  exact ⟨rfl, rfl⟩
set_option maxHeartbeats 1000000 in
theorem pJ0_lengthK {h : k_H} {i : Nat} (hi : i < 4) : Sp 1 0 0 MJ0_length_8abf5 [.retAddr (10 + i)] h (Rt (some (.int (nI (lenJ.getD i 0)))) h) := by
  refine Sp_of (by decide +kernel) (Nat.le_of_ble_eq_true rfl) ?_
  show AW none MJ0_length_8abf5 1 0 0 0 [.retAddr (10 + i)] [] h _
  refine k_aloadT eJ0_length_8abf5_0 rfl ?_
  refine k_getKv (i := i) eJ0_length_8abf5_1 hi fJ0_9.2 ?_
  refine k_alenK (i := i) eJ0_length_8abf5_4 hi ?_
  refine k_topi (nI (lenJ.getD i 0)) rfl ?_
  refine k_aloadT eJ0_length_8abf5_5 rfl ?_
  refine k_callK (M' := MJ0_coder_7d493) (bc' := 0) (bs' := 0) (bc2 := 0) (bs2 := 0) eJ0_length_8abf5_6 mJ0_335 wJ0_coder_7d493 vJ0_coder_7d493 ⟨hi, rfl⟩ rfl (pJ0_coderK hi) (by decide) ⟨rfl, rfl⟩ (Nat.le_of_ble_eq_true rfl) ?_
  rintro r h1 ⟨rfl, e1⟩
  obtain rfl := e1.symm
  refine k_ishr eJ0_length_8abf5_9 ?_
  refine k_topi (nI (lenJ.getD i 0)) (shr0 _) ?_
  refine k_ireturn eJ0_length_8abf5_10 rfl rfl ?_
  exact ⟨rfl, rfl⟩
set_option maxHeartbeats 1000000 in
theorem pJ0_length {h : k_H} {sa va : Nat} {x y : Int32} (hs : h[sa]? = some (.inr (0, [.ref va, .int 0, .int x, .int y]))) {m : Nat} {f : Nat → Int32} (hv : h[va]? = some (.inl (m, .inr (.inr f)))) : Sp 1 0 0 MJ0_length_8abf5 [.ref sa] h (Rt (some (.int (nI m))) h) := by
  refine Sp_of (by decide +kernel) (Nat.le_of_ble_eq_true rfl) ?_
  show AW none MJ0_length_8abf5 1 0 0 0 [.ref sa] [] h _
  refine k_aload_n eJ0_length_8abf5_0 rfl ?_
  refine k_get eJ0_length_8abf5_1 clJ0 (j := 0) fJ0_9 hs rfl ?_
  refine k_alenB eJ0_length_8abf5_4 hv ?_
  refine k_topi (nI m) rfl ?_
  refine k_aload_n eJ0_length_8abf5_5 rfl ?_
  refine k_callV (M' := MJ0_coder_7d493) (bc' := 0) (bs' := 0) (bc2 := 0) (bs2 := 0) eJ0_length_8abf5_6 mJ0_335 wJ0_coder_7d493 vJ0_coder_7d493 ⟨hs, _, rfl, rfl⟩ rfl (pJ0_coder hs) (by decide) ⟨rfl, rfl⟩ (Nat.le_of_ble_eq_true rfl) ?_
  rintro r h1 ⟨rfl, e1⟩
  obtain rfl := e1.symm
  refine k_ishr eJ0_length_8abf5_9 ?_
  refine k_topi (nI m) (shr0 _) ?_
  refine k_ireturn eJ0_length_8abf5_10 rfl rfl ?_
  exact ⟨rfl, rfl⟩
set_option maxHeartbeats 1000000 in
theorem pJ8_newLength {h : k_H} {g : Nat} (hg : g ≤ 18) : Sp 1 0 0 MJ8_newLength_cabcc [.int (nI 16), .int (nI g), .int (nI 18)] h (Rt (some (.int (nI 34))) h) := by
  refine Sp_of (by decide +kernel) (Nat.le_of_ble_eq_true rfl) ?_
  show AW none MJ8_newLength_cabcc 1 0 0 0 [.int (nI 16), .int (nI g), .int (nI 18), .null] [] h _
  refine k_iload_n eJ8_newLength_cabcc_0 rfl ?_
  refine k_iload_n eJ8_newLength_cabcc_1 rfl ?_
  refine k_iload_n eJ8_newLength_cabcc_2 rfl ?_
  refine k_mmax eJ8_newLength_cabcc_3 mJ8_194 (by decide) (Nat.le_of_ble_eq_true rfl) ?_
  refine k_topi (nI 18) (by rw [mx_nI (by omega) (by omega), Nat.max_eq_right hg]) ?_
  refine k_iaddN eJ8_newLength_cabcc_6 ?_
  refine k_istore_n (L2 := [_, _, _, _]) eJ8_newLength_cabcc_7 (Nat.le_of_ble_eq_true rfl) rfl ?_
  refine k_iconst (v := nI 0) eJ8_newLength_cabcc_8 (by decide) ?_
  refine k_iload_n eJ8_newLength_cabcc_9 rfl ?_
  refine k_icmp_geN 21 eJ8_newLength_cabcc_10 (by decide) (by omega) (by omega) (fun c_10 => by exfalso; omega) (fun c_10 => ?_)
  refine k_iload_n eJ8_newLength_cabcc_13 rfl ?_
  refine k_ldc eJ8_newLength_cabcc_14 kJ8_200 rfl ?_
  refine k_topi (nI 2147483639) (by decide) ?_
  refine k_icmp_gtN 21 eJ8_newLength_cabcc_16 (by decide) (by omega) (by omega) (fun c_16 => by exfalso; omega) (fun c_16 => ?_)
  refine k_iload_n eJ8_newLength_cabcc_19 rfl ?_
  refine k_ireturn eJ8_newLength_cabcc_20 rfl rfl ?_
  exact ⟨rfl, rfl⟩
set_option maxHeartbeats 1000000 in
theorem pJ5_newCapacity {h : k_H} {a p n : Nat} (ha : h[a]? = some (.inr (1, [.ref p, .int 0, .int 0, .int (nI n)]))) {f : Nat → Int32} (hp9 : h[p]? = some (.inl (16, .inr (.inr f)))) {w : Nat} (hw : 16 < w) (hw2 : w ≤ 34) : Sp 2 0 0 MJ5_newCapacity_0f7a4 [.ref a, .int (nI w)] h (Rt (some (.int (nI 34))) h) := by
  refine Sp_of (by decide +kernel) (Nat.le_of_ble_eq_true rfl) ?_
  show AW none MJ5_newCapacity_0f7a4 2 0 0 0 [.ref a, .int (nI w), .null, .null, .null, .null] [] h _
  refine k_aload_n eJ5_newCapacity_0f7a4_0 rfl ?_
  refine k_get eJ5_newCapacity_0f7a4_1 clJ4 (j := 0) fJ5_15 ha rfl ?_
  refine k_alenB eJ5_newCapacity_0f7a4_4 hp9 ?_
  refine k_topi (nI 16) rfl ?_
  refine k_istore_n (L2 := [_, _, _, _, _, _]) eJ5_newCapacity_0f7a4_5 (Nat.le_of_ble_eq_true rfl) rfl ?_
  refine k_iload_n eJ5_newCapacity_0f7a4_6 rfl ?_
  refine k_aload_n eJ5_newCapacity_0f7a4_7 rfl ?_
  refine k_get eJ5_newCapacity_0f7a4_8 clJ4 (j := 1) fJ5_22 ha rfl ?_
  refine k_topi (nI 0) rfl ?_
  refine k_ishl eJ5_newCapacity_0f7a4_11 ?_
  refine k_topi (nI w) (shl0 _) ?_
  refine k_istore_n (L2 := [_, _, _, _, _, _]) eJ5_newCapacity_0f7a4_12 (Nat.le_of_ble_eq_true rfl) rfl ?_
  refine k_iload_n eJ5_newCapacity_0f7a4_13 rfl ?_
  refine k_iload_n eJ5_newCapacity_0f7a4_14 rfl ?_
  refine k_isubN eJ5_newCapacity_0f7a4_15 (by omega) ?_
  refine k_istore (L2 := [_, _, _, _, _, _]) eJ5_newCapacity_0f7a4_16 (Nat.le_of_ble_eq_true rfl) rfl ?_
  refine k_iload_n eJ5_newCapacity_0f7a4_18 rfl ?_
  refine k_iload eJ5_newCapacity_0f7a4_19 rfl ?_
  refine k_iload_n eJ5_newCapacity_0f7a4_21 rfl ?_
  refine k_iconst (v := nI 2) eJ5_newCapacity_0f7a4_22 (by decide) ?_
  refine k_aload_n eJ5_newCapacity_0f7a4_23 rfl ?_
  refine k_get eJ5_newCapacity_0f7a4_24 clJ4 (j := 1) fJ5_22 ha rfl ?_
  refine k_topi (nI 0) rfl ?_
  refine k_ishl eJ5_newCapacity_0f7a4_27 ?_
  refine k_topi (nI 2) (shl0 _) ?_
  refine k_iaddN eJ5_newCapacity_0f7a4_28 ?_
  refine k_callS (M' := MJ8_newLength_cabcc) (bc' := 0) (bs' := 0) (bc2 := 0) (bs2 := 0) eJ5_newCapacity_0f7a4_29 mJ5_114 wJ8_newLength_cabcc sJ8_newLength_cabcc rfl (pJ8_newLength (by omega)) (by decide) ⟨rfl, rfl⟩ (Nat.le_of_ble_eq_true rfl) ?_
  rintro r h1 ⟨rfl, e1⟩
  obtain rfl := e1.symm
  refine k_istore (L2 := [_, _, _, _, _, _]) eJ5_newCapacity_0f7a4_32 (Nat.le_of_ble_eq_true rfl) rfl ?_
  refine k_iload eJ5_newCapacity_0f7a4_34 rfl ?_
  refine k_ldc eJ5_newCapacity_0f7a4_36 kJ5_39 rfl ?_
  refine k_topi (nI 2147483647) (by decide) ?_
  refine k_icmp_neN 51 eJ5_newCapacity_0f7a4_38 (by decide) (by omega) (by omega) (fun c_38 => ?_) (fun c_38 => by exfalso; omega)
  refine k_iload eJ5_newCapacity_0f7a4_51 rfl ?_
  refine k_aload_n eJ5_newCapacity_0f7a4_53 rfl ?_
  refine k_get eJ5_newCapacity_0f7a4_54 clJ4 (j := 1) fJ5_22 ha rfl ?_
  refine k_topi (nI 0) rfl ?_
  refine k_ishr eJ5_newCapacity_0f7a4_57 ?_
  refine k_topi (nI 34) (shr0 _) ?_
  refine k_ireturn eJ5_newCapacity_0f7a4_58 rfl rfl ?_
  exact ⟨rfl, rfl⟩
set_option maxHeartbeats 1000000 in
theorem pJ7_copyOf {h : k_H} {p : Nat} {f : Nat → Int32} (hp9 : h[p]? = some (.inl (16, .inr (.inr f)))) (hf : sb_Fit f) : Sp 1 1 34 MJ7_copyOf_9075b [.ref p, .int (nI 34)] h (fun r h1 => ∃ g : Nat → Int32, sb_Fit g ∧ r = some (.ref h.length) ∧ h1 = h ++ [.inl (34, .inr (.inr g))]) := by
  refine Sp_of (by decide +kernel) (Nat.le_of_ble_eq_true rfl) ?_
  show AW none MJ7_copyOf_9075b 1 1 34 0 [.ref p, .int (nI 34), .null] [] h _
  refine k_iload_n eJ7_copyOf_9075b_0 rfl ?_
  refine k_aload_n eJ7_copyOf_9075b_1 rfl ?_
  refine k_alenB eJ7_copyOf_9075b_2 hp9 ?_
  refine k_topi (nI 16) rfl ?_
  refine k_icmp_neN 14 eJ7_copyOf_9075b_3 (by decide) (by omega) (by omega) (fun c_3 => ?_) (fun c_3 => by exfalso; omega)
  refine k_iload_n eJ7_copyOf_9075b_14 rfl ?_
  refine k_newB (N := 34) (bc2 := 0) (bs2 := 0) (h2' := h ++ [.inl (34, .inr (.inr (fun _ => 0)))]) (a := h.length) eJ7_copyOf_9075b_15 w_arrB (nI_pos (by omega)) (nI_clamp (by omega)) (by omega) ⟨rfl, (Nat.zero_add _).symm⟩ rfl rfl ?_
  refine k_astore_n (L2 := [_, _, _]) eJ7_copyOf_9075b_17 (Nat.le_of_ble_eq_true rfl) rfl ?_
  refine k_aload_n eJ7_copyOf_9075b_18 rfl ?_
  refine k_iconst (v := nI 0) eJ7_copyOf_9075b_19 (by decide) ?_
  refine k_aload_n eJ7_copyOf_9075b_20 rfl ?_
  refine k_iconst (v := nI 0) eJ7_copyOf_9075b_21 (by decide) ?_
  refine k_aload_n eJ7_copyOf_9075b_22 rfl ?_
  refine k_alenB eJ7_copyOf_9075b_23 (ga_l hp9) ?_
  refine k_topi (nI 16) rfl ?_
  refine k_iload_n eJ7_copyOf_9075b_24 rfl ?_
  refine k_mmin eJ7_copyOf_9075b_25 mJ7_304 (by decide) (Nat.le_of_ble_eq_true rfl) ?_
  refine k_topi (nI 16) (by rw [mn_nI (by omega) (by omega)]; rfl) ?_
  refine k_cpyB eJ7_copyOf_9075b_28 mJ7_150 w_cpy (by decide) (Nat.le_of_ble_eq_true rfl) (ga_l hp9) hf ga_e (nI_pos (by omega)) (nI_pos (by omega)) (nI_pos (by omega)) (by rw [nI_clamp (by omega), nI_clamp (by omega)]; omega) (by rw [nI_clamp (by omega), nI_clamp (by omega)]; omega) (fun g hg => ?_)
  rw [List.set_append_right _ _ (Nat.le_refl _), Nat.sub_self]
  refine k_aload_n eJ7_copyOf_9075b_31 rfl ?_
  refine k_areturn eJ7_copyOf_9075b_32 rfl (Or.inr ⟨_, rfl⟩) ?_
  exact ⟨g, hg sb_fit0, rfl, rfl⟩
set_option maxHeartbeats 1000000 in
theorem pJ5_ensure0 {h : k_H} {a p n : Nat} (ha : h[a]? = some (.inr (1, [.ref p, .int 0, .int 0, .int (nI n)]))) {q : Nat} {f : Nat → Int32} (hp9 : h[p]? = some (.inl (q, .inr (.inr f)))) (hf : sb_Fit f) {b w : Nat} (hba : b ≤ a) (hbp : b ≤ p) (hbh : b ≤ h.length) (hq : q = 16 ∨ q = 34) (hw : w ≤ q) : Sp 0 0 0 MJ5_ensureCapacityInternal_d00df [.ref a, .int (nI w)] h (fun r h1 => r = none ∧ Kp b h h1 ∧ ∃ q1, (q1 = 16 ∨ q1 = 34) ∧ w ≤ q1 ∧ SBh b a n q1 h1) := by
  refine Sp_of (by decide +kernel) (Nat.le_of_ble_eq_true rfl) ?_
  show AW none MJ5_ensureCapacityInternal_d00df 0 0 0 0 [.ref a, .int (nI w), .null] [] h _
  refine k_aload_n eJ5_ensureCapacityInternal_d00df_0 rfl ?_
  refine k_get eJ5_ensureCapacityInternal_d00df_1 clJ4 (j := 0) fJ5_15 ha rfl ?_
  refine k_alenB eJ5_ensureCapacityInternal_d00df_4 hp9 ?_
  refine k_topi (nI q) rfl ?_
  refine k_aload_n eJ5_ensureCapacityInternal_d00df_5 rfl ?_
  refine k_get eJ5_ensureCapacityInternal_d00df_6 clJ4 (j := 1) fJ5_22 ha rfl ?_
  refine k_topi (nI 0) rfl ?_
  refine k_ishr eJ5_ensureCapacityInternal_d00df_9 ?_
  refine k_topi (nI q) (shr0 _) ?_
  refine k_istore_n (L2 := [_, _, _]) eJ5_ensureCapacityInternal_d00df_10 (Nat.le_of_ble_eq_true rfl) rfl ?_
  refine k_iload_n eJ5_ensureCapacityInternal_d00df_11 rfl ?_
  refine k_iload_n eJ5_ensureCapacityInternal_d00df_12 rfl ?_
  refine k_isub eJ5_ensureCapacityInternal_d00df_13 ?_
  refine k_if_le 38 eJ5_ensureCapacityInternal_d00df_14 (by decide) (fun c_14 => ?_) (fun c_14 => by exact absurd (by rw [sub_nneg9 (by omega) (by omega)]; omega) c_14)
  refine k_return eJ5_ensureCapacityInternal_d00df_38 rfl ?_
  exact ⟨rfl, Kp.rf hbh, q, hq, hw, hba, p, f, hbp, ha, hp9, hf⟩
set_option maxHeartbeats 1000000 in
theorem pJ5_ensure1 {h : k_H} {a p n : Nat} (ha : h[a]? = some (.inr (1, [.ref p, .int 0, .int 0, .int (nI n)]))) {f : Nat → Int32} (hp9 : h[p]? = some (.inl (16, .inr (.inr f)))) (hf : sb_Fit f) {b w : Nat} (hba : b ≤ a) (hbp : b ≤ p) (hbh : b ≤ h.length) (hw : 16 < w) (hw2 : w ≤ 34) : Sp 3 1 34 MJ5_ensureCapacityInternal_d00df [.ref a, .int (nI w)] h (fun r h1 => r = none ∧ Kp b h h1 ∧ ∃ q1, (q1 = 16 ∨ q1 = 34) ∧ w ≤ q1 ∧ SBh b a n q1 h1) := by
  refine Sp_of (by decide +kernel) (Nat.le_of_ble_eq_true rfl) ?_
  show AW none MJ5_ensureCapacityInternal_d00df 3 1 34 0 [.ref a, .int (nI w), .null] [] h _
  refine k_aload_n eJ5_ensureCapacityInternal_d00df_0 rfl ?_
  refine k_get eJ5_ensureCapacityInternal_d00df_1 clJ4 (j := 0) fJ5_15 ha rfl ?_
  refine k_alenB eJ5_ensureCapacityInternal_d00df_4 hp9 ?_
  refine k_topi (nI 16) rfl ?_
  refine k_aload_n eJ5_ensureCapacityInternal_d00df_5 rfl ?_
  refine k_get eJ5_ensureCapacityInternal_d00df_6 clJ4 (j := 1) fJ5_22 ha rfl ?_
  refine k_topi (nI 0) rfl ?_
  refine k_ishr eJ5_ensureCapacityInternal_d00df_9 ?_
  refine k_topi (nI 16) (shr0 _) ?_
  refine k_istore_n (L2 := [_, _, _]) eJ5_ensureCapacityInternal_d00df_10 (Nat.le_of_ble_eq_true rfl) rfl ?_
  refine k_iload_n eJ5_ensureCapacityInternal_d00df_11 rfl ?_
  refine k_iload_n eJ5_ensureCapacityInternal_d00df_12 rfl ?_
  refine k_isub eJ5_ensureCapacityInternal_d00df_13 ?_
  refine k_if_le 38 eJ5_ensureCapacityInternal_d00df_14 (by decide) (fun c_14 => by exact absurd c_14 (by rw [sub_nneg9 (by omega) (by omega)]; omega)) (fun c_14 => ?_)
  refine k_aload_n eJ5_ensureCapacityInternal_d00df_17 rfl ?_
  refine k_aload_n eJ5_ensureCapacityInternal_d00df_18 rfl ?_
  refine k_get eJ5_ensureCapacityInternal_d00df_19 clJ4 (j := 0) fJ5_15 ha rfl ?_
  refine k_aload_n eJ5_ensureCapacityInternal_d00df_22 rfl ?_
  refine k_iload_n eJ5_ensureCapacityInternal_d00df_23 rfl ?_
  refine k_callU (M' := MJ5_newCapacity_0f7a4) (bc' := 0) (bs' := 0) (bc2 := 1) (bs2 := 34) eJ5_ensureCapacityInternal_d00df_24 mJ5_104 wJ5_newCapacity_0f7a4 uJ5_newCapacity_0f7a4 ha rfl (pJ5_newCapacity ha hp9 hw hw2) (by decide) ⟨rfl, rfl⟩ (Nat.le_of_ble_eq_true rfl) ?_
  rintro r h1 ⟨rfl, e1⟩
  obtain rfl := e1.symm
  refine k_aload_n eJ5_ensureCapacityInternal_d00df_27 rfl ?_
  refine k_get eJ5_ensureCapacityInternal_d00df_28 clJ4 (j := 1) fJ5_22 ha rfl ?_
  refine k_topi (nI 0) rfl ?_
  refine k_ishl eJ5_ensureCapacityInternal_d00df_31 ?_
  refine k_topi (nI 34) (shl0 _) ?_
  refine k_callS (M' := MJ7_copyOf_9075b) (bc' := 1) (bs' := 34) (bc2 := 0) (bs2 := 0) eJ5_ensureCapacityInternal_d00df_32 mJ5_108 wJ7_copyOf_9075b sJ7_copyOf_9075b rfl (pJ7_copyOf hp9 hf) (by decide) ⟨rfl, rfl⟩ (Nat.le_of_ble_eq_true rfl) ?_
  rintro r h1 ⟨g, hg, rfl, rfl⟩
  refine k_put (h2' := _) eJ5_ensureCapacityInternal_d00df_35 clJ4 (j := 0) fJ5_15 rfl (ga_l ha) (Nat.le_of_ble_eq_true rfl) (fun _ => ⟨rfl, rfl⟩) rfl ?_
  refine k_return eJ5_ensureCapacityInternal_d00df_38 rfl ?_
  have hl := g_lt ha
  refine ⟨rfl, ((Kp.rf hbh).app).set hba, 34, Or.inr rfl, hw2, hba, h.length, g, hbh, gs_eq (by rw [List.length_append]; omega), gs_ne ga_e (by omega), hg⟩
theorem pJ5_ensure {h : k_H} {a b n q w : Nat} (hs : SBh b a n q h) (hbh : b ≤ h.length) (hq : q = 16 ∨ q = 34) (hw : w ≤ 34) : ∃ d, d ≤ 3 ∧ ∃ bc bs, bc ≤ 1 ∧ bs ≤ 34 ∧ Sp d bc bs MJ5_ensureCapacityInternal_d00df [.ref a, .int (nI w)] h (fun r h1 => r = none ∧ Kp b h h1 ∧ ∃ q1, (q1 = 16 ∨ q1 = 34) ∧ w ≤ q1 ∧ SBh b a n q1 h1) := by
  obtain ⟨hba, p, f, hbp, ha, hp9, hf⟩ := hs
  by_cases h1 : w ≤ q
  · exact ⟨0, by omega, 0, 0, by omega, by omega, pJ5_ensure0 ha hp9 hf hba hbp hbh hq h1⟩
  · rcases hq with rfl | rfl
    · exact ⟨3, by omega, 1, 34, by omega, by omega, pJ5_ensure1 ha hp9 hf hba hbp hbh (by omega) hw⟩
    · omega
