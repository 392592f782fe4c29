set_option maxHeartbeats 400000 in
theorem pX3_strengthOf {S : k_S} {V : k_V} (hV : vC S = V){r w k : Nat} (hr : r < 5) (hw : w < 6) (hk : k < 120) : Sp 1 0 0 MX3_strengthOf [.ref 29, .int (nI r), .int (nI w), .int (nI k)] (hp S) (Rt (some (.int (str V r w k))) (hp S)) := by
  refine Sp_of (by decide +kernel) (Nat.le_of_ble_eq_true rfl) ?_
  show AW none MX3_strengthOf 1 0 0 0 [.ref 29, .int (nI r), .int (nI w), .int (nI k), .null] [] (hp S) _
  refine k_aload_n eX3_strengthOf_0 rfl ?_
  refine GX3_21 eX3_strengthOf_1 rfl ?_
  refine GX3_44 eX3_strengthOf_4 rfl ?_
  refine k_iload_n eX3_strengthOf_7 rfl ?_
  refine cN1 (M' := MX11_read) eX3_strengthOf_8 mX3_49 wX11_read sX11_read rfl (pX11_readN (j := w) (ar18 _) (by omega) (by decide)) (by decide) (Nat.le_of_ble_eq_true rfl) ?_
  refine k_aload_n eX3_strengthOf_11 rfl ?_
  refine GX3_25 eX3_strengthOf_12 rfl ?_
  refine GX3_53 eX3_strengthOf_15 rfl ?_
  refine k_iload_n eX3_strengthOf_18 rfl ?_
  refine cN1 (M' := MX11_read) eX3_strengthOf_19 mX3_49 wX11_read sX11_read rfl (pX11_readN (j := r) (ar21 _) (by omega) (by decide)) (by decide) (Nat.le_of_ble_eq_true rfl) ?_
  refine k_imul eX3_strengthOf_22 ?_
  refine k_sipush (v := nI 1000) eX3_strengthOf_23 (by decide) ?_
  refine k_idiv eX3_strengthOf_26 (by decide) ?_
  refine k_istore (L2 := [_, _, _, _, _]) eX3_strengthOf_27 (Nat.le_of_ble_eq_true rfl) rfl ?_
  refine k_iload eX3_strengthOf_29 rfl ?_
  refine k_aload_n eX3_strengthOf_31 rfl ?_
  refine GX3_25 eX3_strengthOf_32 rfl ?_
  refine GX3_58 eX3_strengthOf_35 rfl ?_
  refine k_iload_n eX3_strengthOf_38 rfl ?_
  refine k_bipush (v := nI 120) eX3_strengthOf_39 (by decide) ?_
  refine k_imulN eX3_strengthOf_41 ?_
  refine k_iload_n eX3_strengthOf_42 rfl ?_
  refine k_iaddN eX3_strengthOf_43 ?_
  refine cN1 (M' := MX11_read) eX3_strengthOf_44 mX3_49 wX11_read sX11_read rfl (pX11_readN (j := ((r * 120) + k)) (ar23 _) (by omega) (by decide)) (by decide) (Nat.le_of_ble_eq_true rfl) ?_
  refine k_imul eX3_strengthOf_47 ?_
  refine k_ireturn eX3_strengthOf_48 rfl rfl ?_
  exact ⟨by rw [← hV]; rfl, rfl⟩
set_option maxHeartbeats 400000 in
theorem pX3_tirednessOf {S : k_S} {V : k_V} (hV : vC S = V){r w k : Nat} (hr : r < 5) (hw : w < 6) (hk : k < 120) : Sp 1 0 0 MX3_tirednessOf [.ref 29, .int (nI r), .int (nI w), .int (nI k)] (hp S) (Rt (some (.int (tir V r w k))) (hp S)) := by
  refine Sp_of (by decide +kernel) (Nat.le_of_ble_eq_true rfl) ?_
  show AW none MX3_tirednessOf 1 0 0 0 [.ref 29, .int (nI r), .int (nI w), .int (nI k)] [] (hp S) _
  refine k_aload_n eX3_tirednessOf_0 rfl ?_
  refine GX3_21 eX3_tirednessOf_1 rfl ?_
  refine GX3_61 eX3_tirednessOf_4 rfl ?_
  refine k_iload_n eX3_tirednessOf_7 rfl ?_
  refine cN1 (M' := MX11_read) eX3_tirednessOf_8 mX3_49 wX11_read sX11_read rfl (pX11_readN (j := w) (ar17 _) (by omega) (by decide)) (by decide) (Nat.le_of_ble_eq_true rfl) ?_
  refine k_aload_n eX3_tirednessOf_11 rfl ?_
  refine GX3_25 eX3_tirednessOf_12 rfl ?_
  refine GX3_64 eX3_tirednessOf_15 rfl ?_
  refine k_iload_n eX3_tirednessOf_18 rfl ?_
  refine k_bipush (v := nI 120) eX3_tirednessOf_19 (by decide) ?_
  refine k_imulN eX3_tirednessOf_21 ?_
  refine k_iload_n eX3_tirednessOf_22 rfl ?_
  refine k_iaddN eX3_tirednessOf_23 ?_
  refine cN1 (M' := MX11_read) eX3_tirednessOf_24 mX3_49 wX11_read sX11_read rfl (pX11_readN (j := ((r * 120) + k)) (ar22 _) (by omega) (by decide)) (by decide) (Nat.le_of_ble_eq_true rfl) ?_
  refine k_imul eX3_tirednessOf_27 ?_
  refine k_ireturn eX3_tirednessOf_28 rfl rfl ?_
  exact ⟨by rw [← hV]; rfl, rfl⟩
set_option maxHeartbeats 400000 in
theorem pX3_brought {S : k_S} {V : k_V} (hV : vC S = V){r w k : Nat} (hr : r < 5) (hw : w < 6) (hk : k < 120) : Sp 2 0 0 MX3_brought [.ref 29, .int (nI r), .int (nI w), .int (nI k)] (hp S) (Rt (some (.int (pts V r w k))) (hp S)) := by
  refine Sp_of (by decide +kernel) (Nat.le_of_ble_eq_true rfl) ?_
  show AW none MX3_brought 2 0 0 0 [.ref 29, .int (nI r), .int (nI w), .int (nI k)] [] (hp S) _
  refine k_aload_n eX3_brought_0 rfl ?_
  refine k_iload_n eX3_brought_1 rfl ?_
  refine k_iload_n eX3_brought_2 rfl ?_
  refine k_iload_n eX3_brought_3 rfl ?_
  refine cV1 (M' := MX3_strengthOf) eX3_brought_4 mX3_37 wX3_strengthOf vX3_strengthOf ⟨_, _, _, rfl, rfl, rfl⟩ rfl (pX3_strengthOf (S := S) (V := V) (r := r) (w := w) (k := k) hV (by omega) (by omega) (by omega)) (by decide) (Nat.le_of_ble_eq_true rfl) ?_
  refine k_aload_n eX3_brought_7 rfl ?_
  refine k_iload_n eX3_brought_8 rfl ?_
  refine k_iload_n eX3_brought_9 rfl ?_
  refine k_iload_n eX3_brought_10 rfl ?_
  refine cV1 (M' := MX3_tirednessOf) eX3_brought_11 mX3_41 wX3_tirednessOf vX3_tirednessOf ⟨_, _, _, rfl, rfl, rfl⟩ rfl (pX3_tirednessOf (S := S) (V := V) (r := r) (w := w) (k := k) hV (by omega) (by omega) (by omega)) (by decide) (Nat.le_of_ble_eq_true rfl) ?_
  refine k_isub eX3_brought_14 ?_
  refine k_ireturn eX3_brought_15 rfl rfl ?_
  exact ⟨rfl, rfl⟩
theorem to_of {n : Nat} (hn : n < 120) : ∀ j, j ≤ 120 → (nI n < nI j ↔ n + 1 ≤ j) := fun j hj => by rw [nI_ltI (by omega) (by omega)]; omega
theorem to_of' {n : Nat} (hn : 0 < n) (hn2 : n < 120) : ∀ j, j ≤ 120 → (nI n - nI 1 < nI j ↔ n ≤ j) := fun j hj => by rw [pk_sub hn, nI_ltI (by omega) (by omega)]; omega
theorem to_of0 : ∀ j, j ≤ 120 → (nI 0 - nI 1 < nI j ↔ 0 ≤ j) := fun j hj => ⟨fun _ => Nat.zero_le j, fun _ => by rw [Int32.lt_iff_toInt_lt, nI_toInt (by omega), show (nI 0 - nI 1).toInt = -1 from by decide]; omega⟩
set_option maxHeartbeats 400000 in
theorem lX3_strongBy {d : Nat} {Po : Option Value → k_H → Prop} (hdd : 2 ≤ d) {S : k_S} {V : k_V} (hV : vC S = V) (hpl : PlanOk V) {r day n0 : Nat} {t : Int32} (hr : r < 5) (hday : day < 120) (hn0 : n0 ≤ day + 1) (ht : ∀ j, j ≤ 120 → (t < nI j ↔ n0 ≤ j)) (kx : AW none MX3_strongBy d 0 0 50 [.ref 29, .int (nI r), .int (t), .int (nI day), .int (sSum V r day n0), .int (nI n0), .null] [] (hp S) Po) : ∀ (n j : Nat), j + n = n0 → AW none MX3_strongBy d 0 0 6 [.ref 29, .int (nI r), .int (t), .int (nI day), .int (sSum V r day j), .int (nI j), .null] [] (hp S) Po := by
  intro n
  induction n with
  | zero =>
    intro j hj
    rw [show j = n0 by omega]
    refine k_iload eX3_strongBy_6 rfl ?_
    refine k_iload_n eX3_strongBy_8 rfl ?_
    refine k_icmp_gt 50 eX3_strongBy_9 (by decide) (fun c_9 => ?_) (fun c_9 => by exact absurd ((ht n0 (by omega)).mpr (Nat.le_refl _)) c_9)
    exact kx
  | succ n ih =>
    intro j hj
    refine k_iload eX3_strongBy_6 rfl ?_
    refine k_iload_n eX3_strongBy_8 rfl ?_
    refine k_icmp_gt 50 eX3_strongBy_9 (by decide) (fun c_9 => by exact absurd ((ht j (by omega)).mp c_9) (by omega)) (fun c_9 => ?_)
    have hjl : j < n0 := by omega
    have hpw := hpl.lt (d := j) (by omega)
    refine k_aload_n eX3_strongBy_12 rfl ?_
    refine GX3_29 eX3_strongBy_13 rfl ?_
    refine k_iload eX3_strongBy_16 rfl ?_
    refine cV1 (M' := MX2_at) eX3_strongBy_18 mX3_67 wX2_at vX2_at ⟨_, _, _, rfl, rfl, rfl⟩ rfl (pX2_at (S := S) (j := j) (by omega)) (by omega) (Nat.le_of_ble_eq_true rfl) ?_
    refine k_topi (nI (pw V j)) (vpl hV hpl (by omega)) ?_
    refine k_istore (L2 := [_, _, _, _, _, _, _]) eX3_strongBy_21 (Nat.le_of_ble_eq_true rfl) rfl ?_
    refine k_iload eX3_strongBy_23 rfl ?_
    refine k_if_eqN 44 eX3_strongBy_25 (by decide) (by omega) (fun c_25 => ?_) (fun c_25 => ?_)
    · refine k_iincN (g := 1) (a := j) (L2 := [_, _, _, _, _, _, _]) eX3_strongBy_44 (Nat.le_of_ble_eq_true rfl) rfl rfl ?_
      refine k_goto 6 eX3_strongBy_47 (by decide) ?_
      refine k_forget 6 (L2 := [_, _, _, _, _, _, _]) rfl ?_
      have q := ih (j + 1) (by omega)
      rw [sSum, sumN_s] at q
      first | (rw [if_neg c_25] at q; exact q) | (rw [if_pos c_25, addz] at q; exact q)
    refine k_iload eX3_strongBy_28 rfl ?_
    refine k_aload_n eX3_strongBy_30 rfl ?_
    refine k_iload_n eX3_strongBy_31 rfl ?_
    refine k_iload eX3_strongBy_32 rfl ?_
    refine k_iload_n eX3_strongBy_34 rfl ?_
    refine k_iload eX3_strongBy_35 rfl ?_
    refine k_isubN eX3_strongBy_37 (by omega) ?_
    refine cV1 (M' := MX3_strengthOf) eX3_strongBy_38 mX3_37 wX3_strengthOf vX3_strengthOf ⟨_, _, _, rfl, rfl, rfl⟩ rfl (pX3_strengthOf (S := S) (V := V) (r := r) (w := (pw V j)) (k := (day - j)) hV (by omega) (by omega) (by omega)) (by omega) (Nat.le_of_ble_eq_true rfl) ?_
    refine k_iadd eX3_strongBy_41 ?_
    refine k_istore (L2 := [_, _, _, _, _, _, _]) eX3_strongBy_42 (Nat.le_of_ble_eq_true rfl) rfl ?_
    refine k_iincN (g := 1) (a := j) (L2 := [_, _, _, _, _, _, _]) eX3_strongBy_44 (Nat.le_of_ble_eq_true rfl) rfl rfl ?_
    refine k_goto 6 eX3_strongBy_47 (by decide) ?_
    refine k_forget 6 (L2 := [_, _, _, _, _, _, _]) rfl ?_
    have q := ih (j + 1) (by omega)
    rw [sSum, sumN_s] at q
    first | (rw [if_neg c_25] at q; exact q) | (rw [if_pos c_25, addz] at q; exact q)
set_option maxHeartbeats 400000 in
theorem lX3_tiredBy {d : Nat} {Po : Option Value → k_H → Prop} (hdd : 2 ≤ d) {S : k_S} {V : k_V} (hV : vC S = V) (hpl : PlanOk V) {r day n0 : Nat} {t : Int32} (hr : r < 5) (hday : day < 120) (hn0 : n0 ≤ day + 1) (ht : ∀ j, j ≤ 120 → (t < nI j ↔ n0 ≤ j)) (kx : AW none MX3_tiredBy d 0 0 50 [.ref 29, .int (nI r), .int (t), .int (nI day), .int (tSum V r day n0), .int (nI n0), .null] [] (hp S) Po) : ∀ (n j : Nat), j + n = n0 → AW none MX3_tiredBy d 0 0 6 [.ref 29, .int (nI r), .int (t), .int (nI day), .int (tSum V r day j), .int (nI j), .null] [] (hp S) Po := by
  intro n
  induction n with
  | zero =>
    intro j hj
    rw [show j = n0 by omega]
    refine k_iload eX3_tiredBy_6 rfl ?_
    refine k_iload_n eX3_tiredBy_8 rfl ?_
    refine k_icmp_gt 50 eX3_tiredBy_9 (by decide) (fun c_9 => ?_) (fun c_9 => by exact absurd ((ht n0 (by omega)).mpr (Nat.le_refl _)) c_9)
    exact kx
  | succ n ih =>
    intro j hj
    refine k_iload eX3_tiredBy_6 rfl ?_
    refine k_iload_n eX3_tiredBy_8 rfl ?_
    refine k_icmp_gt 50 eX3_tiredBy_9 (by decide) (fun c_9 => by exact absurd ((ht j (by omega)).mp c_9) (by omega)) (fun c_9 => ?_)
    have hjl : j < n0 := by omega
    have hpw := hpl.lt (d := j) (by omega)
    refine k_aload_n eX3_tiredBy_12 rfl ?_
    refine GX3_29 eX3_tiredBy_13 rfl ?_
    refine k_iload eX3_tiredBy_16 rfl ?_
    refine cV1 (M' := MX2_at) eX3_tiredBy_18 mX3_67 wX2_at vX2_at ⟨_, _, _, rfl, rfl, rfl⟩ rfl (pX2_at (S := S) (j := j) (by omega)) (by omega) (Nat.le_of_ble_eq_true rfl) ?_
    refine k_topi (nI (pw V j)) (vpl hV hpl (by omega)) ?_
    refine k_istore (L2 := [_, _, _, _, _, _, _]) eX3_tiredBy_21 (Nat.le_of_ble_eq_true rfl) rfl ?_
    refine k_iload eX3_tiredBy_23 rfl ?_
    refine k_if_eqN 44 eX3_tiredBy_25 (by decide) (by omega) (fun c_25 => ?_) (fun c_25 => ?_)
    · refine k_iincN (g := 1) (a := j) (L2 := [_, _, _, _, _, _, _]) eX3_tiredBy_44 (Nat.le_of_ble_eq_true rfl) rfl rfl ?_
      refine k_goto 6 eX3_tiredBy_47 (by decide) ?_
      refine k_forget 6 (L2 := [_, _, _, _, _, _, _]) rfl ?_
      have q := ih (j + 1) (by omega)
      rw [tSum, sumN_s] at q
      first | (rw [if_neg c_25] at q; exact q) | (rw [if_pos c_25, addz] at q; exact q)
    refine k_iload eX3_tiredBy_28 rfl ?_
    refine k_aload_n eX3_tiredBy_30 rfl ?_
    refine k_iload_n eX3_tiredBy_31 rfl ?_
    refine k_iload eX3_tiredBy_32 rfl ?_
    refine k_iload_n eX3_tiredBy_34 rfl ?_
    refine k_iload eX3_tiredBy_35 rfl ?_
    refine k_isubN eX3_tiredBy_37 (by omega) ?_
    refine cV1 (M' := MX3_tirednessOf) eX3_tiredBy_38 mX3_41 wX3_tirednessOf vX3_tirednessOf ⟨_, _, _, rfl, rfl, rfl⟩ rfl (pX3_tirednessOf (S := S) (V := V) (r := r) (w := (pw V j)) (k := (day - j)) hV (by omega) (by omega) (by omega)) (by omega) (Nat.le_of_ble_eq_true rfl) ?_
    refine k_iadd eX3_tiredBy_41 ?_
    refine k_istore (L2 := [_, _, _, _, _, _, _]) eX3_tiredBy_42 (Nat.le_of_ble_eq_true rfl) rfl ?_
    refine k_iincN (g := 1) (a := j) (L2 := [_, _, _, _, _, _, _]) eX3_tiredBy_44 (Nat.le_of_ble_eq_true rfl) rfl rfl ?_
    refine k_goto 6 eX3_tiredBy_47 (by decide) ?_
    refine k_forget 6 (L2 := [_, _, _, _, _, _, _]) rfl ?_
    have q := ih (j + 1) (by omega)
    rw [tSum, sumN_s] at q
    first | (rw [if_neg c_25] at q; exact q) | (rw [if_pos c_25, addz] at q; exact q)
set_option maxHeartbeats 400000 in
theorem pX3_strongBy {S : k_S} {V : k_V} (hV : vC S = V) (hpl : PlanOk V) {r day n0 : Nat} {t : Int32} (hr : r < 5) (hday : day < 120) (hn0 : n0 ≤ day + 1) (ht : ∀ j, j ≤ 120 → (t < nI j ↔ n0 ≤ j)) : Sp 2 0 0 MX3_strongBy [.ref 29, .int (nI r), .int (t), .int (nI day)] (hp S) (Rt (some (.int (sSum V r day n0))) (hp S)) := by
  refine Sp_of (by decide +kernel) (Nat.le_of_ble_eq_true rfl) ?_
  show AW none MX3_strongBy 2 0 0 0 [.ref 29, .int (nI r), .int (t), .int (nI day), .null, .null, .null] [] (hp S) _
  refine k_iconst (v := nI 0) eX3_strongBy_0 (by decide) ?_
  refine k_istore (L2 := [_, _, _, _, _, _, _]) eX3_strongBy_1 (Nat.le_of_ble_eq_true rfl) rfl ?_
  refine k_iconst (v := nI 0) eX3_strongBy_3 (by decide) ?_
  refine k_istore (L2 := [_, _, _, _, _, _, _]) eX3_strongBy_4 (Nat.le_of_ble_eq_true rfl) rfl ?_
  refine lX3_strongBy (by decide) hV hpl hr hday hn0 ht ?_ n0 0 (by omega)
  refine k_iload eX3_strongBy_50 rfl ?_
  refine k_ireturn eX3_strongBy_52 rfl rfl ?_
  exact ⟨rfl, rfl⟩
set_option maxHeartbeats 400000 in
theorem pX3_tiredBy {S : k_S} {V : k_V} (hV : vC S = V) (hpl : PlanOk V) {r day n0 : Nat} {t : Int32} (hr : r < 5) (hday : day < 120) (hn0 : n0 ≤ day + 1) (ht : ∀ j, j ≤ 120 → (t < nI j ↔ n0 ≤ j)) : Sp 2 0 0 MX3_tiredBy [.ref 29, .int (nI r), .int (t), .int (nI day)] (hp S) (Rt (some (.int (tSum V r day n0))) (hp S)) := by
  refine Sp_of (by decide +kernel) (Nat.le_of_ble_eq_true rfl) ?_
  show AW none MX3_tiredBy 2 0 0 0 [.ref 29, .int (nI r), .int (t), .int (nI day), .null, .null, .null] [] (hp S) _
  refine k_iconst (v := nI 0) eX3_tiredBy_0 (by decide) ?_
  refine k_istore (L2 := [_, _, _, _, _, _, _]) eX3_tiredBy_1 (Nat.le_of_ble_eq_true rfl) rfl ?_
  refine k_iconst (v := nI 0) eX3_tiredBy_3 (by decide) ?_
  refine k_istore (L2 := [_, _, _, _, _, _, _]) eX3_tiredBy_4 (Nat.le_of_ble_eq_true rfl) rfl ?_
  refine lX3_tiredBy (by decide) hV hpl hr hday hn0 ht ?_ n0 0 (by omega)
  refine k_iload eX3_tiredBy_50 rfl ?_
  refine k_ireturn eX3_tiredBy_52 rfl rfl ?_
  exact ⟨rfl, rfl⟩
set_option maxHeartbeats 400000 in
theorem pX3_fitOn {S : k_S} {V : k_V} (hV : vC S = V) (hpl : PlanOk V){r day : Nat} (hr : r < 5) (hday : day < 120) : Sp 3 0 0 MX3_fitOn [.ref 29, .int (nI r), .int (nI day)] (hp S) (Rt (some (.int (fitv V r day))) (hp S)) := by
  refine Sp_of (by decide +kernel) (Nat.le_of_ble_eq_true rfl) ?_
  show AW none MX3_fitOn 3 0 0 0 [.ref 29, .int (nI r), .int (nI day)] [] (hp S) _
  refine k_aload_n eX3_fitOn_0 rfl ?_
  refine k_iload_n eX3_fitOn_1 rfl ?_
  refine k_iload_n eX3_fitOn_2 rfl ?_
  refine k_iload_n eX3_fitOn_3 rfl ?_
  refine cV1 (M' := MX3_strongBy) eX3_fitOn_4 mX3_73 wX3_strongBy vX3_strongBy ⟨_, _, _, rfl, rfl, rfl⟩ rfl (pX3_strongBy (S := S) (V := V) (r := r) (day := day) (n0 := (day + 1)) hV hpl (by omega) (by omega) (by omega) (to_of (by omega))) (by decide) (Nat.le_of_ble_eq_true rfl) ?_
  refine k_aload_n eX3_fitOn_7 rfl ?_
  refine k_iload_n eX3_fitOn_8 rfl ?_
  refine k_iload_n eX3_fitOn_9 rfl ?_
  refine k_iload_n eX3_fitOn_10 rfl ?_
  refine cV1 (M' := MX3_tiredBy) eX3_fitOn_11 mX3_76 wX3_tiredBy vX3_tiredBy ⟨_, _, _, rfl, rfl, rfl⟩ rfl (pX3_tiredBy (S := S) (V := V) (r := r) (day := day) (n0 := (day + 1)) hV hpl (by omega) (by omega) (by omega) (to_of (by omega))) (by decide) (Nat.le_of_ble_eq_true rfl) ?_
  refine k_isub eX3_fitOn_14 ?_
  refine k_ireturn eX3_fitOn_15 rfl rfl ?_
  exact ⟨rfl, rfl⟩
set_option maxHeartbeats 400000 in
theorem lX3_valueOf {d : Nat} {Po : Option Value → k_H → Prop} (hdd : 3 ≤ d) {S : k_S} {V : k_V} (hV : vC S = V) {dn : Nat} (hdn : S.1 1302 = nI dn) (hcd : CntOk V dn){r w dd : Nat} (hr : r < 5) (hw : w < 6) (hdd2 : dd < 120) (kx : AW none MX3_valueOf d 0 0 65 [.ref 29, .int (nI r), .int (nI w), .int (nI dd), .int (sumN (fun c => if dd ≤ cN V c then V 8 c * pts V r w (cN V c - dd) else nI 0) dn), .int (nI dn), .null] [] (hp S) Po) : ∀ (n j : Nat), j + n = dn → AW none MX3_valueOf d 0 0 6 [.ref 29, .int (nI r), .int (nI w), .int (nI dd), .int (sumN (fun c => if dd ≤ cN V c then V 8 c * pts V r w (cN V c - dd) else nI 0) j), .int (nI j), .null] [] (hp S) Po := by
  intro n
  induction n with
  | zero =>
    intro j hj
    rw [show j = dn by omega]
    have hd4 := hcd.1
    refine k_iload eX3_valueOf_6 rfl ?_
    refine k_aload_n eX3_valueOf_8 rfl ?_
    refine GX3_33 eX3_valueOf_9 rfl ?_
    refine GX3_79 eX3_valueOf_12 rfl ?_
    refine k_topi (nI dn) hdn ?_
    refine k_icmp_geN 65 eX3_valueOf_15 (by decide) (by omega) (by omega) (fun c_15 => ?_) (fun c_15 => by exfalso; omega)
    exact kx
  | succ n ih =>
    intro j hj
    have hd4 := hcd.1
    refine k_iload eX3_valueOf_6 rfl ?_
    refine k_aload_n eX3_valueOf_8 rfl ?_
    refine GX3_33 eX3_valueOf_9 rfl ?_
    refine GX3_79 eX3_valueOf_12 rfl ?_
    refine k_topi (nI dn) hdn ?_
    refine k_icmp_geN 65 eX3_valueOf_15 (by decide) (by omega) (by omega) (fun c_15 => by exfalso; omega) (fun c_15 => ?_)
    have hjl : j < dn := by omega
    have hcl := (hcd.2 j hjl).2
    refine k_aload_n eX3_valueOf_18 rfl ?_
    refine GX3_33 eX3_valueOf_19 rfl ?_
    refine k_iload eX3_valueOf_22 rfl ?_
    refine cV1 (M' := MX5_dayOf) eX3_valueOf_24 mX3_85 wX5_dayOf vX5_dayOf ⟨_, _, _, rfl, rfl, rfl⟩ rfl (pX5_dayOf (S := S) (j := j) (by omega)) (by omega) (Nat.le_of_ble_eq_true rfl) ?_
    refine k_topi (nI (cN V j)) (vcd hV hcd (by omega)) ?_
    refine k_iload_n eX3_valueOf_27 rfl ?_
    refine k_isub eX3_valueOf_28 ?_
    refine k_istore (L2 := [_, _, _, _, _, _, _]) eX3_valueOf_29 (Nat.le_of_ble_eq_true rfl) rfl ?_
    refine k_iload eX3_valueOf_31 rfl ?_
    refine k_if_lt 59 eX3_valueOf_33 (by decide) (fun c_33 => ?_) (fun c_33 => ?_)
    · refine k_iincN (g := 1) (a := j) (L2 := [_, _, _, _, _, _, _]) eX3_valueOf_59 (Nat.le_of_ble_eq_true rfl) rfl rfl ?_
      refine k_goto 6 eX3_valueOf_62 (by decide) ?_
      refine k_forget 6 (L2 := [_, _, _, _, _, _, _]) rfl ?_
      have q := ih (j + 1) (by omega)
      rw [sumN_s] at q
      first | (rw [if_pos hle] at q; exact q) | (rw [if_neg (by rw [sub_nneg (by omega) (by omega)] at c_33; omega), addz] at q; exact q)
    have hle : dd ≤ cN V j := by rw [sub_nneg (by omega) (by omega)] at c_33; omega
    refine k_loc (L2 := [_, _, _, _, _, _, .int (nI (cN V j - dd))]) (by rw [pk_sub hle]) ?_
    refine k_iload eX3_valueOf_36 rfl ?_
    refine k_aload_n eX3_valueOf_38 rfl ?_
    refine GX3_33 eX3_valueOf_39 rfl ?_
    refine k_iload eX3_valueOf_42 rfl ?_
    refine cV1 (M' := MX5_weightOf) eX3_valueOf_44 mX3_88 wX5_weightOf vX5_weightOf ⟨_, _, _, rfl, rfl, rfl⟩ rfl (pX5_weightOf (S := S) (j := j) (by omega)) (by omega) (Nat.le_of_ble_eq_true rfl) ?_
    refine k_topi ((V 8 j)) (congrFun (congrFun hV 8) _) ?_
    refine k_aload_n eX3_valueOf_47 rfl ?_
    refine k_iload_n eX3_valueOf_48 rfl ?_
    refine k_iload_n eX3_valueOf_49 rfl ?_
    refine k_iload eX3_valueOf_50 rfl ?_
    refine cV1 (M' := MX3_brought) eX3_valueOf_52 mX3_91 wX3_brought vX3_brought ⟨_, _, _, rfl, rfl, rfl⟩ rfl (pX3_brought (S := S) (V := V) (r := r) (w := w) (k := (cN V j - dd)) hV (by omega) (by omega) (by omega)) (by omega) (Nat.le_of_ble_eq_true rfl) ?_
    refine k_imul eX3_valueOf_55 ?_
    refine k_iadd eX3_valueOf_56 ?_
    refine k_istore (L2 := [_, _, _, _, _, _, _]) eX3_valueOf_57 (Nat.le_of_ble_eq_true rfl) rfl ?_
    refine k_iincN (g := 1) (a := j) (L2 := [_, _, _, _, _, _, _]) eX3_valueOf_59 (Nat.le_of_ble_eq_true rfl) rfl rfl ?_
    refine k_goto 6 eX3_valueOf_62 (by decide) ?_
    refine k_forget 6 (L2 := [_, _, _, _, _, _, _]) rfl ?_
    have q := ih (j + 1) (by omega)
    rw [sumN_s] at q
    first | (rw [if_pos hle] at q; exact q) | (rw [if_neg (by rw [sub_nneg (by omega) (by omega)] at c_33; omega), addz] at q; exact q)
set_option maxHeartbeats 400000 in
theorem pX3_valueOf {S : k_S} {V : k_V} (hV : vC S = V) {dn : Nat} (hdn : S.1 1302 = nI dn) (hcd : CntOk V dn){r w dd : Nat} (hr : r < 5) (hw : w < 6) (hdd2 : dd < 120) : Sp 3 0 0 MX3_valueOf [.ref 29, .int (nI r), .int (nI w), .int (nI dd)] (hp S) (Rt (some (.int (wor V dn r w dd))) (hp S)) := by
  refine Sp_of (by decide +kernel) (Nat.le_of_ble_eq_true rfl) ?_
  show AW none MX3_valueOf 3 0 0 0 [.ref 29, .int (nI r), .int (nI w), .int (nI dd), .null, .null, .null] [] (hp S) _
  refine k_iconst (v := nI 0) eX3_valueOf_0 (by decide) ?_
  refine k_istore (L2 := [_, _, _, _, _, _, _]) eX3_valueOf_1 (Nat.le_of_ble_eq_true rfl) rfl ?_
  refine k_iconst (v := nI 0) eX3_valueOf_3 (by decide) ?_
  refine k_istore (L2 := [_, _, _, _, _, _, _]) eX3_valueOf_4 (Nat.le_of_ble_eq_true rfl) rfl ?_
  refine lX3_valueOf (by decide) hV hdn hcd hr hw hdd2 ?_ dn 0 (by omega)
  refine k_iload eX3_valueOf_65 rfl ?_
  refine k_ireturn eX3_valueOf_67 rfl rfl ?_
  exact ⟨rfl, rfl⟩
set_option maxHeartbeats 400000 in
theorem lX3_gainedOf {d : Nat} {Po : Option Value → k_H → Prop} (hdd : 4 ≤ d) {S : k_S} {V : k_V} (hV : vC S = V) {dn : Nat} (hdn : S.1 1302 = nI dn) (hcd : CntOk V dn) (hpl : PlanOk V) {r : Nat} (hr : r < 5) (kx : AW none MX3_gainedOf d 0 0 33 [.ref 29, .int (nI r), .int (gai V dn r 120), .int (nI 120)] [] (hp S) Po) : ∀ (n j : Nat), j + n = 120 → AW none MX3_gainedOf d 0 0 4 [.ref 29, .int (nI r), .int (gai V dn r j), .int (nI j)] [] (hp S) Po := by
  intro n
  induction n with
  | zero =>
    intro j hj
    rw [show j = 120 by omega]
    refine k_iload_n eX3_gainedOf_4 rfl ?_
    refine k_bipush (v := nI 120) eX3_gainedOf_5 (by decide) ?_
    refine k_icmp_geN 33 eX3_gainedOf_7 (by decide) (by omega) (by omega) (fun c_7 => ?_) (fun c_7 => by exfalso; omega)
    exact kx
  | succ n ih =>
    intro j hj
    refine k_iload_n eX3_gainedOf_4 rfl ?_
    refine k_bipush (v := nI 120) eX3_gainedOf_5 (by decide) ?_
    refine k_icmp_geN 33 eX3_gainedOf_7 (by decide) (by omega) (by omega) (fun c_7 => by exfalso; omega) (fun c_7 => ?_)
    have hpw := hpl.lt (d := j) (by omega)
    refine k_iload_n eX3_gainedOf_10 rfl ?_
    refine k_aload_n eX3_gainedOf_11 rfl ?_
    refine k_iload_n eX3_gainedOf_12 rfl ?_
    refine k_aload_n eX3_gainedOf_13 rfl ?_
    refine GX3_29 eX3_gainedOf_14 rfl ?_
    refine k_iload_n eX3_gainedOf_17 rfl ?_
    refine cV1 (M' := MX2_at) eX3_gainedOf_18 mX3_67 wX2_at vX2_at ⟨_, _, _, rfl, rfl, rfl⟩ rfl (pX2_at (S := S) (j := j) (by omega)) (by omega) (Nat.le_of_ble_eq_true rfl) ?_
    refine k_topi (nI (pw V j)) (vpl hV hpl (by omega)) ?_
    refine k_iload_n eX3_gainedOf_21 rfl ?_
    refine cV1 (M' := MX3_valueOf) eX3_gainedOf_22 mX3_94 wX3_valueOf vX3_valueOf ⟨_, _, _, rfl, rfl, rfl⟩ rfl (pX3_valueOf (S := S) (V := V) (dn := dn) (r := r) (w := (pw V j)) (dd := j) hV hdn hcd (by omega) (by omega) (by omega)) (by omega) (Nat.le_of_ble_eq_true rfl) ?_
    refine k_iadd eX3_gainedOf_25 ?_
    refine k_istore_n (L2 := [_, _, _, _]) eX3_gainedOf_26 (Nat.le_of_ble_eq_true rfl) rfl ?_
    refine k_iincN (g := 1) (a := j) (L2 := [_, _, _, _]) eX3_gainedOf_27 (Nat.le_of_ble_eq_true rfl) rfl rfl ?_
    refine k_goto 4 eX3_gainedOf_30 (by decide) ?_
    exact ih (j + 1) (by omega)
set_option maxHeartbeats 400000 in
theorem pX3_gainedOf {S : k_S} {V : k_V} (hV : vC S = V) {dn : Nat} (hdn : S.1 1302 = nI dn) (hcd : CntOk V dn) (hpl : PlanOk V) {r : Nat} (hr : r < 5) : Sp 4 0 0 MX3_gainedOf [.ref 29, .int (nI r)] (hp S) (Rt (some (.int (gai V dn r 120))) (hp S)) := by
  refine Sp_of (by decide +kernel) (Nat.le_of_ble_eq_true rfl) ?_
  show AW none MX3_gainedOf 4 0 0 0 [.ref 29, .int (nI r), .null, .null] [] (hp S) _
  refine k_iconst (v := nI 0) eX3_gainedOf_0 (by decide) ?_
  refine k_istore_n (L2 := [_, _, _, _]) eX3_gainedOf_1 (Nat.le_of_ble_eq_true rfl) rfl ?_
  refine k_iconst (v := nI 0) eX3_gainedOf_2 (by decide) ?_
  refine k_istore_n (L2 := [_, _, _, _]) eX3_gainedOf_3 (Nat.le_of_ble_eq_true rfl) rfl ?_
  refine lX3_gainedOf (by decide) hV hdn hcd hpl hr ?_ 120 0 (by omega)
  refine k_iload_n eX3_gainedOf_33 rfl ?_
  refine k_ireturn eX3_gainedOf_34 rfl rfl ?_
  exact ⟨rfl, rfl⟩
