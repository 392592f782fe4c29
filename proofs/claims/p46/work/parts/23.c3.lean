set_option maxHeartbeats 400000 in
theorem pX3_strengthOf {S : k_S} {V : k_V} (hV : vC S = V){r w k : Nat} (hr : r < 5) (hw : w < 6) (hk : k < 120) : Sp 1 0 0 MX3_strengthOf [.ref 29, .int (nI r), .int (nI w), .int (nI k)] (hp S) (Rt (some (.int (str V r w k))) (hp S)) := by
  refine Sp_of (by decide +kernel) (Nat.le_of_ble_eq_true rfl) ?_
  show AW none MX3_strengthOf 1 0 0 0 [.ref 29, .int (nI r), .int (nI w), .int (nI k), .null] [] (hp S) _
  refine k_aload_n eX3_strengthOf_0 rfl ?_
  refine GX3_21 eX3_strengthOf_1 rfl ?_
  refine GX3_44 eX3_strengthOf_4 rfl ?_
  refine k_iload_n eX3_strengthOf_7 rfl ?_
  refine cN1 (M' := MX11_read) eX3_strengthOf_8 mX3_49 wX11_read sX11_read rfl (pX11_readN (j := w) (ar18 _) (by omega) (by decide)) (by decide) (Nat.le_of_ble_eq_true rfl) ?_
  refine k_aload_n eX3_strengthOf_11 rfl ?_
  refine GX3_25 eX3_strengthOf_12 rfl ?_
  refine GX3_53 eX3_strengthOf_15 rfl ?_
  refine k_iload_n eX3_strengthOf_18 rfl ?_
  refine cN1 (M' := MX11_read) eX3_strengthOf_19 mX3_49 wX11_read sX11_read rfl (pX11_readN (j := r) (ar21 _) (by omega) (by decide)) (by decide) (Nat.le_of_ble_eq_true rfl) ?_
  refine k_imul eX3_strengthOf_22 ?_
  refine k_sipush (v := nI 1000) eX3_strengthOf_23 (by decide) ?_
  refine k_idiv eX3_strengthOf_26 (by decide) ?_
  refine k_istore (L2 := [_, _, _, _, _]) eX3_strengthOf_27 (Nat.le_of_ble_eq_true rfl) rfl ?_
  refine k_iload eX3_strengthOf_29 rfl ?_
  refine k_aload_n eX3_strengthOf_31 rfl ?_
  refine GX3_25 eX3_strengthOf_32 rfl ?_
  refine GX3_58 eX3_strengthOf_35 rfl ?_
  refine k_iload_n eX3_strengthOf_38 rfl ?_
  refine k_bipush (v := nI 120) eX3_strengthOf_39 (by decide) ?_
  refine k_imulN eX3_strengthOf_41 ?_
  refine k_iload_n eX3_strengthOf_42 rfl ?_
  refine k_iaddN eX3_strengthOf_43 ?_
  refine cN1 (M' := MX11_read) eX3_strengthOf_44 mX3_49 wX11_read sX11_read rfl (pX11_readN (j := ((r * 120) + k)) (ar23 _) (by omega) (by decide)) (by decide) (Nat.le_of_ble_eq_true rfl) ?_
  refine k_imul eX3_strengthOf_47 ?_
  refine k_ireturn eX3_strengthOf_48 rfl rfl ?_
  exact ⟨by rw [← hV]; rfl, rfl⟩
set_option maxHeartbeats 400000 in
theorem pX3_tirednessOf {S : k_S} {V : k_V} (hV : vC S = V){r w k : Nat} (hr : r < 5) (hw : w < 6) (hk : k < 120) : Sp 1 0 0 MX3_tirednessOf [.ref 29, .int (nI r), .int (nI w), .int (nI k)] (hp S) (Rt (some (.int (tir V r w k))) (hp S)) := by
  refine Sp_of (by decide +kernel) (Nat.le_of_ble_eq_true rfl) ?_
  show AW none MX3_tirednessOf 1 0 0 0 [.ref 29, .int (nI r), .int (nI w), .int (nI k)] [] (hp S) _
  refine k_aload_n eX3_tirednessOf_0 rfl ?_
  refine GX3_21 eX3_tirednessOf_1 rfl ?_
  refine GX3_61 eX3_tirednessOf_4 rfl ?_
  refine k_iload_n eX3_tirednessOf_7 rfl ?_
  refine cN1 (M' := MX11_read) eX3_tirednessOf_8 mX3_49 wX11_read sX11_read rfl (pX11_readN (j := w) (ar17 _) (by omega) (by decide)) (by decide) (Nat.le_of_ble_eq_true rfl) ?_
  refine k_aload_n eX3_tirednessOf_11 rfl ?_
  refine GX3_25 eX3_tirednessOf_12 rfl ?_
  refine GX3_64 eX3_tirednessOf_15 rfl ?_
  refine k_iload_n eX3_tirednessOf_18 rfl ?_
  refine k_bipush (v := nI 120) eX3_tirednessOf_19 (by decide) ?_
  refine k_imulN eX3_tirednessOf_21 ?_
  refine k_iload_n eX3_tirednessOf_22 rfl ?_
  refine k_iaddN eX3_tirednessOf_23 ?_
  refine cN1 (M' := MX11_read) eX3_tirednessOf_24 mX3_49 wX11_read sX11_read rfl (pX11_readN (j := ((r * 120) + k)) (ar22 _) (by omega) (by decide)) (by decide) (Nat.le_of_ble_eq_true rfl) ?_
  refine k_imul eX3_tirednessOf_27 ?_
  refine k_ireturn eX3_tirednessOf_28 rfl rfl ?_
  exact ⟨by rw [← hV]; rfl, rfl⟩
set_option maxHeartbeats 400000 in
theorem pX3_brought {S : k_S} {V : k_V} (hV : vC S = V){r w k : Nat} (hr : r < 5) (hw : w < 6) (hk : k < 120) : Sp 2 0 0 MX3_brought [.ref 29, .int (nI r), .int (nI w), .int (nI k)] (hp S) (Rt (some (.int (pts V r w k))) (hp S)) := by
  refine Sp_of (by decide +kernel) (Nat.le_of_ble_eq_true rfl) ?_
  show AW none MX3_brought 2 0 0 0 [.ref 29, .int (nI r), .int (nI w), .int (nI k)] [] (hp S) _
  refine k_aload_n eX3_brought_0 rfl ?_
  refine k_iload_n eX3_brought_1 rfl ?_
  refine k_iload_n eX3_brought_2 rfl ?_
  refine k_iload_n eX3_brought_3 rfl ?_
  refine cV1 (M' := MX3_strengthOf) eX3_brought_4 mX3_37 wX3_strengthOf vX3_strengthOf ⟨_, _, _, rfl, rfl, rfl⟩ rfl (pX3_strengthOf (S := S) (V := V) (r := r) (w := w) (k := k) hV (by omega) (by omega) (by omega)) (by decide) (Nat.le_of_ble_eq_true rfl) ?_
  refine k_aload_n eX3_brought_7 rfl ?_
  refine k_iload_n eX3_brought_8 rfl ?_
  refine k_iload_n eX3_brought_9 rfl ?_
  refine k_iload_n eX3_brought_10 rfl ?_
  refine cV1 (M' := MX3_tirednessOf) eX3_brought_11 mX3_41 wX3_tirednessOf vX3_tirednessOf ⟨_, _, _, rfl, rfl, rfl⟩ rfl (pX3_tirednessOf (S := S) (V := V) (r := r) (w := w) (k := k) hV (by omega) (by omega) (by omega)) (by decide) (Nat.le_of_ble_eq_true rfl) ?_
  refine k_isub eX3_brought_14 ?_
  refine k_ireturn eX3_brought_15 rfl rfl ?_
  exact ⟨rfl, rfl⟩
theorem to_of {n : Nat} (hn : n < 120) : ∀ j, j ≤ 120 → (nI n < nI j ↔ n + 1 ≤ j) := fun j hj => by rw [nI_ltI (by omega) (by omega)]; omega
theorem to_of' {n : Nat} (hn : 0 < n) (hn2 : n < 120) : ∀ j, j ≤ 120 → (nI n - nI 1 < nI j ↔ n ≤ j) := fun j hj => by rw [pk_sub hn, nI_ltI (by omega) (by omega)]; omega
theorem to_of0 : ∀ j, j ≤ 120 → (nI 0 - nI 1 < nI j ↔ 0 ≤ j) := fun j hj => ⟨fun _ => Nat.zero_le j, fun _ => by rw [Int32.lt_iff_toInt_lt, nI_toInt (by omega), show (nI 0 - nI 1).toInt = -1 from by decide]; omega⟩
set_option maxHeartbeats 400000 in
theorem lX3_strongBy {d : Nat} {Po : Option Value → k_H → Prop} (hdd : 2 ≤ d) {S : k_S} {V : k_V} (hV : vC S = V) (hpl : PlanOk V) {r day n0 : Nat} {t : Int32} (hr : r < 5) (hday : day < 120) (hn0 : n0 ≤ day + 1) (ht : ∀ j, j ≤ 120 → (t < nI j ↔ n0 ≤ j)) (kx : AW none MX3_strongBy d 0 0 50 [.ref 29, .int (nI r), .int (t), .int (nI day), .int (sSum V r day n0), .int (nI n0), .null] [] (hp S) Po) : ∀ (n j : Nat), j + n = n0 → AW none MX3_strongBy d 0 0 6 [.ref 29, .int (nI r), .int (t), .int (nI day), .int (sSum V r day j), .int (nI j), .null] [] (hp S) Po := by
  intro n
  induction n with
  | zero =>
    intro j hj
    rw [show j = n0 by omega]
    refine k_iload eX3_strongBy_6 rfl ?_
    refine k_iload_n eX3_strongBy_8 rfl ?_
    refine k_icmp_gt 50 eX3_strongBy_9 (by decide) (fun c_9 => ?_) (fun c_9 => by exact absurd ((ht n0 (by omega)).mpr (Nat.le_refl _)) c_9)
    exact kx
  | succ n ih =>
    intro j hj
    refine k_iload eX3_strongBy_6 rfl ?_
    refine k_iload_n eX3_strongBy_8 rfl ?_
    refine k_icmp_gt 50 eX3_strongBy_9 (by decide) (fun c_9 => by exact absurd ((ht j (by omega)).mp c_9) (by omega)) (fun c_9 => ?_)
    have hjl : j < n0 := by omega
    have hpw := hpl.lt (d := j) (by omega)
    refine k_aload_n eX3_strongBy_12 rfl ?_
    refine GX3_29 eX3_strongBy_13 rfl ?_
    refine k_iload eX3_strongBy_16 rfl ?_
    refine cV1 (M' := MX2_at) eX3_strongBy_18 mX3_67 wX2_at vX2_at ⟨_, _, _, rfl, rfl, rfl⟩ rfl (pX2_at (S := S) (j := j) (by omega)) (by omega) (Nat.le_of_ble_eq_true rfl) ?_
    refine k_topi (nI (pw V j)) (vpl hV hpl (by omega)) ?_
    refine k_istore (L2 := [_, _, _, _, _, _, _]) eX3_strongBy_21 (Nat.le_of_ble_eq_true rfl) rfl ?_
    refine k_iload eX3_strongBy_23 rfl ?_
    refine k_if_eqN 44 eX3_strongBy_25 (by decide) (by omega) (fun c_25 => ?_) (fun c_25 => ?_)
    · refine k_iincN (g := 1) (a := j) (L2 := [_, _, _, _, _, _, _]) eX3_strongBy_44 (Nat.le_of_ble_eq_true rfl) rfl rfl ?_
      refine k_goto 6 eX3_strongBy_47 (by decide) ?_
      refine k_forget 6 (L2 := [_, _, _, _, _, _, _]) rfl ?_
      have q := ih (j + 1) (by omega)
      rw [sSum, sumN_s] at q
      first | (rw [if_neg c_25] at q; exact q) | (rw [if_pos c_25, addz] at q; exact q)
    refine k_iload eX3_strongBy_28 rfl ?_
    refine k_aload_n eX3_strongBy_30 rfl ?_
    refine k_iload_n eX3_strongBy_31 rfl ?_
    refine k_iload eX3_strongBy_32 rfl ?_
    refine k_iload_n eX3_strongBy_34 rfl ?_
    refine k_iload eX3_strongBy_35 rfl ?_
    refine k_isubN eX3_strongBy_37 (by omega) ?_
    refine cV1 (M' := MX3_strengthOf) eX3_strongBy_38 mX3_37 wX3_strengthOf vX3_strengthOf ⟨_, _, _, rfl, rfl, rfl⟩ rfl (pX3_strengthOf (S := S) (V := V) (r := r) (w := (pw V j)) (k := (day - j)) hV (by omega) (by omega) (by omega)) (by omega) (Nat.le_of_ble_eq_true rfl) ?_
    refine k_iadd eX3_strongBy_41 ?_
    refine k_istore (L2 := [_, _, _, _, _, _, _]) eX3_strongBy_42 (Nat.le_of_ble_eq_true rfl) rfl ?_
    refine k_iincN (g := 1) (a := j) (L2 := [_, _, _, _, _, _, _]) eX3_strongBy_44 (Nat.le_of_ble_eq_true rfl) rfl rfl ?_
    refine k_goto 6 eX3_strongBy_47 (by decide) ?_
    refine k_forget 6 (L2 := [_, _, _, _, _, _, _]) rfl ?_
    have q := ih (j + 1) (by omega)
    rw [sSum, sumN_s] at q
    first | (rw [if_neg c_25] at q; exact q) | (rw [if_pos c_25, addz] at q; exact q)
set_option maxHeartbeats 400000 in
theorem lX3_tiredBy {d : Nat} {Po : Option Value → k_H → Prop} (hdd : 2 ≤ d) {S : k_S} {V : k_V} (hV : vC S = V) (hpl : PlanOk V) {r day n0 : Nat} {t : Int32} (hr : r < 5) (hday : day < 120) (hn0 : n0 ≤ day + 1) (ht : ∀ j, j ≤ 120 → (t < nI j ↔ n0 ≤ j)) (kx : AW none MX3_tiredBy d 0 0 50 [.ref 29, .int (nI r), .int (t), .int (nI day), .int (tSum V r day n0), .int (nI n0), .null] [] (hp S) Po) : ∀ (n j : Nat), j + n = n0 → AW none MX3_tiredBy d 0 0 6 [.ref 29, .int (nI r), .int (t), .int (nI day), .int (tSum V r day j), .int (nI j), .null] [] (hp S) Po := by
  intro n
  induction n with
  | zero =>
    intro j hj
    rw [show j = n0 by omega]
    refine k_iload eX3_tiredBy_6 rfl ?_
    refine k_iload_n eX3_tiredBy_8 rfl ?_
    refine k_icmp_gt 50 eX3_tiredBy_9 (by decide) (fun c_9 => ?_) (fun c_9 => by exact absurd ((ht n0 (by omega)).mpr (Nat.le_refl _)) c_9)
    exact kx
  | succ n ih =>
    intro j hj
    refine k_iload eX3_tiredBy_6 rfl ?_
    refine k_iload_n eX3_tiredBy_8 rfl ?_
    refine k_icmp_gt 50 eX3_tiredBy_9 (by decide) (fun c_9 => by exact absurd ((ht j (by omega)).mp c_9) (by omega)) (fun c_9 => ?_)
    have hjl : j < n0 := by omega
    have hpw := hpl.lt (d := j) (by omega)
    refine k_aload_n eX3_tiredBy_12 rfl ?_
    refine GX3_29 eX3_tiredBy_13 rfl ?_
    refine k_iload eX3_tiredBy_16 rfl ?_
    refine cV1 (M' := MX2_at) eX3_tiredBy_18 mX3_67 wX2_at vX2_at ⟨_, _, _, rfl, rfl, rfl⟩ rfl (pX2_at (S := S) (j := j) (by omega)) (by omega) (Nat.le_of_ble_eq_true rfl) ?_
    refine k_topi (nI (pw V j)) (vpl hV hpl (by omega)) ?_
    refine k_istore (L2 := [_, _, _, _, _, _, _]) eX3_tiredBy_21 (Nat.le_of_ble_eq_true rfl) rfl ?_
    refine k_iload eX3_tiredBy_23 rfl ?_
    refine k_if_eqN 44 eX3_tiredBy_25 (by decide) (by omega) (fun c_25 => ?_) (fun c_25 => ?_)
    · refine k_iincN (g := 1) (a := j) (L2 := [_, _, _, _, _, _, _]) eX3_tiredBy_44 (Nat.le_of_ble_eq_true rfl) rfl rfl ?_
      refine k_goto 6 eX3_tiredBy_47 (by decide) ?_
      refine k_forget 6 (L2 := [_, _, _, _, _, _, _]) rfl ?_
      have q := ih (j + 1) (by omega)
      rw [tSum, sumN_s] at q
      first | (rw [if_neg c_25] at q; exact q) | (rw [if_pos c_25, addz] at q; exact q)
    refine k_iload eX3_tiredBy_28 rfl ?_
    refine k_aload_n eX3_tiredBy_30 rfl ?_
    refine k_iload_n eX3_tiredBy_31 rfl ?_
    refine k_iload eX3_tiredBy_32 rfl ?_
    refine k_iload_n eX3_tiredBy_34 rfl ?_
    refine k_iload eX3_tiredBy_35 rfl ?_
    refine k_isubN eX3_tiredBy_37 (by omega) ?_
    refine cV1 (M' := MX3_tirednessOf) eX3_tiredBy_38 mX3_41 wX3_tirednessOf vX3_tirednessOf ⟨_, _, _, rfl, rfl, rfl⟩ rfl (pX3_tirednessOf (S := S) (V := V) (r := r) (w := (pw V j)) (k := (day - j)) hV (by omega) (by omega) (by omega)) (by omega) (Nat.le_of_ble_eq_true rfl) ?_
    refine k_iadd eX3_tiredBy_41 ?_
    refine k_istore (L2 := [_, _, _, _, _, _, _]) eX3_tiredBy_42 (Nat.le_of_ble_eq_true rfl) rfl ?_
    refine k_iincN (g := 1) (a := j) (L2 := [_, _, _, _, _, _, _]) eX3_tiredBy_44 (Nat.le_of_ble_eq_true rfl) rfl rfl ?_
    refine k_goto 6 eX3_tiredBy_47 (by decide) ?_
    refine k_forget 6 (L2 := [_, _, _, _, _, _, _]) rfl ?_
    have q := ih (j + 1) (by omega)
    rw [tSum, sumN_s] at q
    first | (rw [if_neg c_25] at q; exact q) | (rw [if_pos c_25, addz] at q; exact q)
set_option maxHeartbeats 400000 in
theorem pX3_strongBy {S : k_S} {V : k_V} (hV : vC S = V) (hpl : PlanOk V) {r day n0 : Nat} {t : Int32} (hr : r < 5) (hday : day < 120) (hn0 : n0 ≤ day + 1) (ht : ∀ j, j ≤ 120 → (t < nI j ↔ n0 ≤ j)) : Sp 2 0 0 MX3_strongBy [.ref 29, .int (nI r), .int (t), .int (nI day)] (hp S) (Rt (some (.int (sSum V r day n0))) (hp S)) := by
  refine Sp_of (by decide +kernel) (Nat.le_of_ble_eq_true rfl) ?_
  show AW none MX3_strongBy 2 0 0 0 [.ref 29, .int (nI r), .int (t), .int (nI day), .null, .null, .null] [] (hp S) _
  refine k_iconst (v := nI 0) eX3_strongBy_0 (by decide) ?_
  refine k_istore (L2 := [_, _, _, _, _, _, _]) eX3_strongBy_1 (Nat.le_of_ble_eq_true rfl) rfl ?_
  refine k_iconst (v := nI 0) eX3_strongBy_3 (by decide) ?_
  refine k_istore (L2 := [_, _, _, _, _, _, _]) eX3_strongBy_4 (Nat.le_of_ble_eq_true rfl) rfl ?_
  refine lX3_strongBy (by decide) hV hpl hr hday hn0 ht ?_ n0 0 (by omega)
  refine k_iload eX3_strongBy_50 rfl ?_
  refine k_ireturn eX3_strongBy_52 rfl rfl ?_
  exact ⟨rfl, rfl⟩
set_option maxHeartbeats 400000 in
theorem pX3_tiredBy {S : k_S} {V : k_V} (hV : vC S = V) (hpl : PlanOk V) {r day n0 : Nat} {t : Int32} (hr : r < 5) (hday : day < 120) (hn0 : n0 ≤ day + 1) (ht : ∀ j, j ≤ 120 → (t < nI j ↔ n0 ≤ j)) : Sp 2 0 0 MX3_tiredBy [.ref 29, .int (nI r), .int (t), .int (nI day)] (hp S) (Rt (some (.int (tSum V r day n0))) (hp S)) := by
  refine Sp_of (by decide +kernel) (Nat.le_of_ble_eq_true rfl) ?_
  show AW none MX3_tiredBy 2 0 0 0 [.ref 29, .int (nI r), .int (t), .int (nI day), .null, .null, .null] [] (hp S) _
  refine k_iconst (v := nI 0) eX3_tiredBy_0 (by decide) ?_
  refine k_istore (L2 := [_, _, _, _, _, _, _]) eX3_tiredBy_1 (Nat.le_of_ble_eq_true rfl) rfl ?_
  refine k_iconst (v := nI 0) eX3_tiredBy_3 (by decide) ?_
  refine k_istore (L2 := [_, _, _, _, _, _, _]) eX3_tiredBy_4 (Nat.le_of_ble_eq_true rfl) rfl ?_
  refine lX3_tiredBy (by decide) hV hpl hr hday hn0 ht ?_ n0 0 (by omega)
  refine k_iload eX3_tiredBy_50 rfl ?_
  refine k_ireturn eX3_tiredBy_52 rfl rfl ?_
  exact ⟨rfl, rfl⟩
set_option maxHeartbeats 400000 in
theorem pX3_fitOn {S : k_S} {V : k_V} (hV : vC S = V) (hpl : PlanOk V){r day : Nat} (hr : r < 5) (hday : day < 120) : Sp 3 0 0 MX3_fitOn [.ref 29, .int (nI r), .int (nI day)] (hp S) (Rt (some (.int (fitv V r day))) (hp S)) := by
  refine Sp_of (by decide +kernel) (Nat.le_of_ble_eq_true rfl) ?_
  show AW none MX3_fitOn 3 0 0 0 [.ref 29, .int (nI r), .int (nI day)] [] (hp S) _
  refine k_aload_n eX3_fitOn_0 rfl ?_
  refine k_iload_n eX3_fitOn_1 rfl ?_
  refine k_iload_n eX3_fitOn_2 rfl ?_
  refine k_iload_n eX3_fitOn_3 rfl ?_
  refine cV1 (M' := MX3_strongBy) eX3_fitOn_4 mX3_73 wX3_strongBy vX3_strongBy ⟨_, _, _, rfl, rfl, rfl⟩ rfl (pX3_strongBy (S := S) (V := V) (r := r) (day := day) (n0 := (day + 1)) hV hpl (by omega) (by omega) (by omega) (to_of (by omega))) (by decide) (Nat.le_of_ble_eq_true rfl) ?_
  refine k_aload_n eX3_fitOn_7 rfl ?_
  refine k_iload_n eX3_fitOn_8 rfl ?_
  refine k_iload_n eX3_fitOn_9 rfl ?_
  refine k_iload_n eX3_fitOn_10 rfl ?_
  refine cV1 (M' := MX3_tiredBy) eX3_fitOn_11 mX3_76 wX3_tiredBy vX3_tiredBy ⟨_, _, _, rfl, rfl, rfl⟩ rfl (pX3_tiredBy (S := S) (V := V) (r := r) (day := day) (n0 := (day + 1)) hV hpl (by omega) (by omega) (by omega) (to_of (by omega))) (by decide) (Nat.le_of_ble_eq_true rfl) ?_
  refine k_isub eX3_fitOn_14 ?_
  refine k_ireturn eX3_fitOn_15 rfl rfl ?_
  exact ⟨rfl, rfl⟩
