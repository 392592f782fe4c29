/-- a byte of a fed int, as the class takes it; so many of them laid on the tape -/
def fdv (v : Int32) (j : Nat) : Int32 := ((v.toUInt32 >>> ((nI (8 * j)).toUInt32 &&& Int32.toUInt32 31)).toInt32) &&& nI 255
def fdT (S : k_S) (tp : Nat) (v : Int32) : Nat → k_S
  | 0 => S
  | j + 1 => si (sa (fdT S tp v j) 12 (va_up ((fdT S tp v j).2.1 12) (tp + j) (fdv v j))) 11 (nI (tp + j + 1))
theorem fdT_11 {S : k_S} {tp : Nat} (v : Int32) (h : S.1 11 = nI tp) : ∀ j, (fdT S tp v j).1 11 = nI (tp + j)
  | 0 => h
  | _ + 1 => rfl
def aFed (tp : Nat) (n : Int32) : Int32 := if pIn n (nI 1) (nI 4) then (if 120 < tp + ix n then -3 else nI (tp + ix n)) else -1
def sFed (S : k_S) (tp : Nat) (n v : Int32) : k_S := if pIn n (nI 1) (nI 4) then (if 120 < tp + ix n then S else fdT S tp v (ix n)) else S
set_option maxHeartbeats 400000 in
theorem lX11_feed {d : Nat} {Po : Option Value → k_H → Prop} (hdd : 1 ≤ d) {S : k_S} {tp : Nat} (htp : S.1 11 = nI tp) (htp120 : tp ≤ 120) {m : Nat} (hm : m ≤ 4) (hfit : tp + m ≤ 120) (v : Int32) (kx : AW none MX11_feed d 0 0 69 [.ref 0, .int (nI m), .int (v), .int (nI m)] [] (hp (fdT S tp v m)) Po) : ∀ (n j : Nat), j + n = m → AW none MX11_feed d 0 0 27 [.ref 0, .int (nI m), .int (v), .int (nI j)] [] (hp (fdT S tp v j)) Po := by
  intro n
  induction n with
  | zero =>
    intro j hj
    rw [show j = m by omega]
    refine k_iload_n eX11_feed_27 rfl ?_
    refine k_iload_n eX11_feed_28 rfl ?_
    refine k_icmp_geN 69 eX11_feed_29 (by decide) (by omega) (by omega) (fun c_29 => ?_) (fun c_29 => by exfalso; omega)
    exact kx
  | succ n ih =>
    intro j hj
    obtain ⟨T, hT⟩ : ∃ T, fdT S tp v j = T := ⟨_, rfl⟩
    have hT11 : T.1 11 = nI (tp + j) := by rw [← hT]; exact fdT_11 v htp j
    rw [hT]
    refine k_iload_n eX11_feed_27 rfl ?_
    refine k_iload_n eX11_feed_28 rfl ?_
    refine k_icmp_geN 69 eX11_feed_29 (by decide) (by omega) (by omega) (fun c_29 => by exfalso; omega) (fun c_29 => ?_)
    refine k_aload_n eX11_feed_32 rfl ?_
    refine GX11_30 eX11_feed_33 rfl ?_
    refine k_aload_n eX11_feed_36 rfl ?_
    refine GX11_34 eX11_feed_37 rfl ?_
    refine k_topi (nI (tp + j)) hT11 ?_
    refine k_iload_n eX11_feed_40 rfl ?_
    refine k_bipush (v := nI 8) eX11_feed_41 (by decide) ?_
    refine k_iload_n eX11_feed_43 rfl ?_
    refine k_imulN eX11_feed_44 ?_
    refine k_iushr eX11_feed_45 ?_
    refine k_sipush (v := nI 255) eX11_feed_46 (by decide) ?_
    refine k_iand eX11_feed_49 ?_
    refine k_topi ((fdv v j)) rfl ?_
    refine cS0 (M' := MX11_write) eX11_feed_50 mX11_211 wX11_write sX11_write rfl (pX11_writeN (j := (tp + j)) (v := (fdv v j)) (ar12 _) (by omega) (by decide) (as12 _ _)) (by omega) (Nat.le_of_ble_eq_true rfl) ?_
    refine k_aload_n eX11_feed_53 rfl ?_
    refine k_dup eX11_feed_54 rfl ?_
    refine GX11_34 eX11_feed_55 rfl ?_
    refine k_topi (nI (tp + j)) hT11 ?_
    refine k_iconst (v := nI 1) eX11_feed_58 (by decide) ?_
    refine k_iaddN eX11_feed_59 ?_
    refine PX11_34 eX11_feed_60 rfl ?_
    refine k_iincN (g := 1) (a := j) (L2 := [_, _, _, _]) eX11_feed_63 (Nat.le_of_ble_eq_true rfl) rfl rfl ?_
    refine k_goto 27 eX11_feed_66 (by decide) ?_
    have q := ih (j + 1) (by omega)
    rw [fdT, hT] at q
    exact q
set_option maxHeartbeats 400000 in
theorem pX11_feed {S : k_S} {tp : Nat} (htp : S.1 11 = nI tp) (htp120 : tp ≤ 120) (x v : Int32) : Sp 1 0 0 MX11_feed [.ref 0, .int (x), .int (v)] (hp S) (Rt (some (.int (aFed tp x))) (hp (sFed S tp x v))) := by
  refine Sp_of (by decide +kernel) (Nat.le_of_ble_eq_true rfl) ?_
  show AW none MX11_feed 1 0 0 0 [.ref 0, .int (x), .int (v), .null] [] (hp S) _
  refine k_iload_n eX11_feed_0 rfl ?_
  refine k_iconst (v := nI 1) eX11_feed_1 (by decide) ?_
  refine k_iconst (v := nI 4) eX11_feed_2 (by decide) ?_
  refine cS1 (M' := MX11_within) eX11_feed_3 mX11_114 wX11_within sX11_within rfl (pX11_within (x) (nI 1) (nI 4)) (by decide) (Nat.le_of_ble_eq_true rfl) ?_
  refine k_ifb_ne 11 eX11_feed_6 (by decide) (fun c_6 => ?_) (fun c_6 => ?_)
  · obtain ⟨m, hm, rfl⟩ := k_rngle (Int32.le_trans (by decide) c_6.1) c_6.2 (by decide)
    refine k_aload_n eX11_feed_11 rfl ?_
    refine GX11_34 eX11_feed_12 rfl ?_
    refine k_topi (nI tp) htp ?_
    refine k_iload_n eX11_feed_15 rfl ?_
    refine k_iaddN eX11_feed_16 ?_
    refine k_bipush (v := nI 120) eX11_feed_17 (by decide) ?_
    refine k_icmp_leN 25 eX11_feed_19 (by decide) (by omega) (by omega) (fun c_19 => ?_) (fun c_19 => ?_)
    · refine k_iconst (v := nI 0) eX11_feed_25 (by decide) ?_
      refine k_istore_n (L2 := [_, _, _, _]) eX11_feed_26 (Nat.le_of_ble_eq_true rfl) rfl ?_
      refine lX11_feed (by decide) (S := S) htp htp120 (m := m) hm (by omega) v ?_ m 0 (by omega)
      refine k_aload_n eX11_feed_69 rfl ?_
      refine GX11_34 eX11_feed_70 rfl ?_
      refine k_topi (nI (tp + m)) (fdT_11 v htp m) ?_
      refine k_ireturn eX11_feed_73 rfl rfl ?_
      exact ⟨by rw [aFed, if_pos c_6, ix_nI (by omega), if_neg (by omega)], by rw [sFed, if_pos c_6, ix_nI (by omega), if_neg (by omega)]⟩
    refine k_bipush (v := (-3)) eX11_feed_22 (by decide) ?_
    refine k_ireturn eX11_feed_24 rfl rfl ?_
    exact ⟨by rw [aFed, if_pos c_6, ix_nI (by omega), if_pos (by omega)], by rw [sFed, if_pos c_6, ix_nI (by omega), if_pos (by omega)]⟩
  refine k_iconst (v := (-1)) eX11_feed_9 (by decide) ?_
  refine k_ireturn eX11_feed_10 rfl rfl ?_
  exact ⟨by rw [aFed, if_neg c_6], by rw [sFed, if_neg c_6]⟩
