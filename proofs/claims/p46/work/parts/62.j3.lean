theorem dvJ0 : ∀ (Z : k_Z) (j : Nat), j < 4 → defaultValue (tyJ0 j) = vp_V ([.null, .int 0, .int 0, .int 0].map (kb Z)) j := by
  intro Z j hj
  match j, hj with
  | 0, _ => rfl
  | 1, _ => rfl
  | 2, _ => rfl
  | 3, _ => rfl
  | n + 4, h => exact absurd h (by omega)
theorem dvJ4 : ∀ (Z : k_Z) (j : Nat), j < 4 → defaultValue (tyJ4 j) = vp_V ([.null, .int 0, .int 0, .int 0].map (kb Z)) j := by
  intro Z j hj
  match j, hj with
  | 0, _ => rfl
  | 1, _ => rfl
  | 2, _ => rfl
  | 3, _ => rfl
  | n + 4, h => exact absurd h (by omega)
set_option maxHeartbeats 1000000 in
theorem pJ4_toString {h : k_H} {b a n : Nat} (hsb : SBn b a n h) (hbh : b ≤ h.length) (hn : 17 ≤ n) (hn2 : n ≤ 20) : Sp 5 2 (4 + n) MJ4_toString_0e30d [.ref a] h (fun r h1 => ∃ sp, r = some (.ref sp) ∧ Kp b h h1 ∧ ∃ va, ∃ g : Nat → Int32, b ≤ va ∧ b ≤ sp ∧ h1[sp]? = some (.inr (0, [.ref va, .int 0, .int 0, .int 0])) ∧ h1[va]? = some (.inl (n, .inr (.inr g))) ∧ sb_Fit g) := by
  obtain ⟨q, hq0, hnq, hba, p, f, hbp, ha, hp9, hf⟩ := hsb
  refine Sp_of (by decide +kernel) (Nat.le_of_ble_eq_true rfl) ?_
  show AW none MJ4_toString_0e30d 5 2 (4 + n) 0 [.ref a] [] h _
  refine k_new (fs := [.null, .int 0, .int 0, .int 0]) (bc2 := 1) (bs2 := n) (h2' := h ++ [.inr (0, [.null, .int 0, .int 0, .int 0])]) (a := h.length) eJ4_toString_0e30d_0 clJ0 cJ4_18 dvJ0 ⟨rfl, Nat.add_comm 4 n⟩ rfl rfl ?_
  refine k_dup eJ4_toString_0e30d_3 rfl ?_
  refine k_aload_n eJ4_toString_0e30d_4 rfl ?_
  refine k_callI (M' := MJ0_init_81219) (bc' := 1) (bs' := n) (bc2 := 0) (bs2 := 0) eJ4_toString_0e30d_5 mJ4_137 wJ0_init_81219 iJ0_init_81219 rfl (pJ0_initA (b := b) ga_e (ga_l ha) (ga_l hp9) hf (by omega) (by omega) hbh (by rw [List.length_append]; omega)) (by decide) ⟨rfl, rfl⟩ (Nat.le_of_ble_eq_true rfl) ?_
  rintro r h1 ⟨rfl, hk1, va, g, hva, hs1, hv1, hg⟩
  refine k_areturn eJ4_toString_0e30d_8 rfl (Or.inl ⟨_, rfl⟩) ?_
  exact ⟨_, rfl, ((Kp.rf hbh).app).tr hk1, va, g, hva, hbh, hs1, hv1, hg⟩
set_option maxHeartbeats 1000000 in
theorem pJ3_checkN {h : k_H} {k n : Nat} (hk : k < n) (hn : n < 2 ^ 31) : Sp 0 0 0 MJ3_checkIndex_8e157 [.int (nI k), .int (nI n), .null] h (Rt (some (.int (nI k))) h) := by
  refine Sp_of (by decide +kernel) (Nat.le_of_ble_eq_true rfl) ?_
  show AW none MJ3_checkIndex_8e157 0 0 0 0 [.int (nI k), .int (nI n), .null] [] h _
  refine k_iload_n eJ3_checkIndex_8e157_0 rfl ?_
  refine k_if_ltN 9 eJ3_checkIndex_8e157_1 (by decide) (by omega) ?_
  refine k_iload_n eJ3_checkIndex_8e157_4 rfl ?_
  refine k_iload_n eJ3_checkIndex_8e157_5 rfl ?_
  refine k_icmp_ltN 16 eJ3_checkIndex_8e157_6 (by decide) (by omega) (by omega) (fun c_6 => ?_) (fun c_6 => by exfalso; omega)
  refine k_iload_n eJ3_checkIndex_8e157_16 rfl ?_
  refine k_ireturn eJ3_checkIndex_8e157_17 rfl rfl ?_
  exact ⟨rfl, rfl⟩
set_option maxHeartbeats 1000000 in
theorem pJ3_checkK {h : k_H} {k n : Nat} (hk : k < n) (hn : n < 2 ^ 31) : Sp 0 0 0 MJ3_checkIndex_8e157 [.int (nI k), .int (nI n), .retAddr 30] h (Rt (some (.int (nI k))) h) := by
  refine Sp_of (by decide +kernel) (Nat.le_of_ble_eq_true rfl) ?_
  show AW none MJ3_checkIndex_8e157 0 0 0 0 [.int (nI k), .int (nI n), .retAddr 30] [] h _
  refine k_iload_n eJ3_checkIndex_8e157_0 rfl ?_
  refine k_if_ltN 9 eJ3_checkIndex_8e157_1 (by decide) (by omega) ?_
  refine k_iload_n eJ3_checkIndex_8e157_4 rfl ?_
  refine k_iload_n eJ3_checkIndex_8e157_5 rfl ?_
  refine k_icmp_ltN 16 eJ3_checkIndex_8e157_6 (by decide) (by omega) (by omega) (fun c_6 => ?_) (fun c_6 => by exfalso; omega)
  refine k_iload_n eJ3_checkIndex_8e157_16 rfl ?_
  refine k_ireturn eJ3_checkIndex_8e157_17 rfl rfl ?_
  exact ⟨rfl, rfl⟩
theorem pJ3_check {h : k_H} {k n : Nat} {v : Value} (hv : v = .null ∨ v = .retAddr 30) (hk : k < n) (hn : n < 2 ^ 31) : Sp 0 0 0 MJ3_checkIndex_8e157 [.int (nI k), .int (nI n), v] h (Rt (some (.int (nI k))) h) := by
  rcases hv with rfl | rfl
  · exact pJ3_checkN hk hn
  · exact pJ3_checkK hk hn
set_option maxHeartbeats 1000000 in
theorem pJ0_check {h : k_H} {k n : Nat} (hk : k < n) (hn : n < 2 ^ 31) : Sp 1 0 0 MJ0_checkIndex_df160 [.int (nI k), .int (nI n)] h (Rt none h) := by
  refine Sp_of (by decide +kernel) (Nat.le_of_ble_eq_true rfl) ?_
  show AW none MJ0_checkIndex_df160 1 0 0 0 [.int (nI k), .int (nI n)] [] h _
  refine k_iload_n eJ0_checkIndex_df160_0 rfl ?_
  refine k_iload_n eJ0_checkIndex_df160_1 rfl ?_
  refine k_getsQ eJ0_checkIndex_df160_2 fJ0_1053 (fun v hv => ?_)
  refine k_callS (M' := MJ3_checkIndex_8e157) (bc' := 0) (bs' := 0) (bc2 := 0) (bs2 := 0) eJ0_checkIndex_df160_5 mJ0_1059 wJ3_checkIndex_8e157 sJ3_checkIndex_8e157 rfl (pJ3_check hv hk hn) (by decide) ⟨rfl, rfl⟩ (Nat.le_of_ble_eq_true rfl) ?_
  rintro r h1 ⟨rfl, e1⟩
  obtain rfl := e1.symm
  refine k_pop eJ0_checkIndex_df160_8 rfl ?_
  refine k_return eJ0_checkIndex_df160_9 rfl ?_
  exact ⟨rfl, rfl⟩
set_option maxHeartbeats 1000000 in
theorem pJ1_charAt {h : k_H} {va m k : Nat} {f : Nat → Int32} (hv : h[va]? = some (.inl (m, .inr (.inr f)))) (hk : k < m) (hm : m < 2 ^ 31) : Sp 2 0 0 MJ1_charAt_3b067 [.ref va, .int (nI k)] h (fun r h1 => ∃ v, r = some (.int v) ∧ narrow .char (.int v) = .int v ∧ h1 = h) := by
  refine Sp_of (by decide +kernel) (Nat.le_of_ble_eq_true rfl) ?_
  show AW none MJ1_charAt_3b067 2 0 0 0 [.ref va, .int (nI k)] [] h _
  refine k_iload_n eJ1_charAt_3b067_0 rfl ?_
  refine k_aload_n eJ1_charAt_3b067_1 rfl ?_
  refine k_alenB eJ1_charAt_3b067_2 hv ?_
  refine k_topi (nI m) rfl ?_
  refine k_callS (M' := MJ0_checkIndex_df160) (bc' := 0) (bs' := 0) (bc2 := 0) (bs2 := 0) eJ1_charAt_3b067_3 mJ1_9 wJ0_checkIndex_df160 sJ0_checkIndex_df160 rfl (pJ0_check hk hm) (by decide) ⟨rfl, rfl⟩ (Nat.le_of_ble_eq_true rfl) ?_
  rintro r h1 ⟨rfl, e1⟩
  obtain rfl := e1.symm
  refine k_aload_n eJ1_charAt_3b067_6 rfl ?_
  refine k_iload_n eJ1_charAt_3b067_7 rfl ?_
  refine k_bald eJ1_charAt_3b067_8 hv (vp_in_nI hk (by omega)) ?_
  refine k_sipush (v := nI 255) eJ1_charAt_3b067_9 (by decide) ?_
  refine k_iand eJ1_charAt_3b067_12 ?_
  refine k_i2c eJ1_charAt_3b067_13 ?_
  refine k_ireturn eJ1_charAt_3b067_14 rfl (pk_nc _) ?_
  exact ⟨_, rfl, pk_nc _, rfl⟩
set_option maxHeartbeats 1000000 in
theorem pJ0_charAt {h : k_H} {sa va : Nat} {x y : Int32} (hs : h[sa]? = some (.inr (0, [.ref va, .int 0, .int x, .int y]))) {m : Nat} {f : Nat → Int32} (hv : h[va]? = some (.inl (m, .inr (.inr f)))) {k : Nat} (hk : k < m) (hm : m < 2 ^ 31) : Sp 3 0 0 MJ0_charAt_5068e [.ref sa, .int (nI k)] h (fun r h1 => ∃ v, r = some (.int v) ∧ narrow .char (.int v) = .int v ∧ h1 = h) := by
  refine Sp_of (by decide +kernel) (Nat.le_of_ble_eq_true rfl) ?_
  show AW none MJ0_charAt_5068e 3 0 0 0 [.ref sa, .int (nI k)] [] h _
  refine k_aload_n eJ0_charAt_5068e_0 rfl ?_
  refine k_callV (M' := MJ0_isLatin1_aae02) (bc' := 0) (bs' := 0) (bc2 := 0) (bs2 := 0) eJ0_charAt_5068e_1 mJ0_492 wJ0_isLatin1_aae02 vJ0_isLatin1_aae02 ⟨hs, _, rfl, rfl⟩ rfl (pJ0_isLatin1 hs) (by decide) ⟨rfl, rfl⟩ (Nat.le_of_ble_eq_true rfl) ?_
  rintro r h1 ⟨rfl, e1⟩
  obtain rfl := e1.symm
  refine k_if_eqN 16 eJ0_charAt_5068e_4 (by decide) (by omega) (fun c_4 => by exfalso; omega) (fun c_4 => ?_)
  refine k_aload_n eJ0_charAt_5068e_7 rfl ?_
  refine k_get eJ0_charAt_5068e_8 clJ0 (j := 0) fJ0_9 hs rfl ?_
  refine k_iload_n eJ0_charAt_5068e_11 rfl ?_
  refine k_callS (M' := MJ1_charAt_3b067) (bc' := 0) (bs' := 0) (bc2 := 0) (bs2 := 0) eJ0_charAt_5068e_12 mJ0_495 wJ1_charAt_3b067 sJ1_charAt_3b067 rfl (pJ1_charAt hv hk hm) (by decide) ⟨rfl, rfl⟩ (Nat.le_of_ble_eq_true rfl) ?_
  rintro r h1 ⟨c9, rfl, hc9, e1⟩
  obtain rfl := e1.symm
  refine k_ireturn eJ0_charAt_5068e_15 rfl hc9 ?_
  exact ⟨_, rfl, hc9, rfl⟩
