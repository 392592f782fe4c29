abbrev pSh (v : Int32) : Prop := nI 0 ≤ v ∧ v < nI 6
def lowb : Nat → Int64 → Int64
  | 0, v => v.toInt32.toInt8.toInt32.toInt64
  | 1, v => v.toInt32.toInt16.toInt32.toInt64
  | 2, v => v.toInt32.toInt64
  | 3, v => v
  | _, v => if v = 0 then 0 else 1
theorem lowb_4 (v : Int64) : lowb 4 v = if v = 0 then 0 else 1 := rfl
def fillJ (g : Nat → Int64) (o : Nat) (f : Nat → Int64) : Nat → Nat → Int64
  | 0 => f
  | n + 1 => va_up (fillJ g o f n) (o + n) (g n)
theorem fillJ_at (g : Nat → Int64) (o : Nat) (f : Nat → Int64) : ∀ n j, fillJ g o f n j = if o ≤ j ∧ j < o + n then g (j - o) else f j
  | 0, j => by rw [if_neg (by omega)]; rfl
  | n + 1, j => by
    rw [fillJ, va_up]
    by_cases h : j = o + n
    · subst h; rw [if_pos rfl, if_pos (by omega), show o + n - o = n by omega]
    · rw [if_neg h, fillJ_at g o f n j]
      by_cases h2 : o ≤ j ∧ j < o + n
      · rw [if_pos h2, if_pos (by omega)]
      · rw [if_neg h2, if_neg (by omega)]
theorem sj_at (S : k_S) (a : Nat) (f : Nat → Int64) : (sj S a f).2.2 a = f := by simp [sj, va_up]
set_option maxHeartbeats 400000 in
theorem pX7_isShelf {S : k_S} (v : Int32) : Sp 0 0 0 MX7_isShelf [.ref 7, .int (v)] (hp S) (Rt (some (.int (b2i (pSh v)))) (hp S)) := by
  refine Sp_of (by decide +kernel) (Nat.le_of_ble_eq_true rfl) ?_
  show AW none MX7_isShelf 0 0 0 0 [.ref 7, .int (v)] [] (hp S) _
  refine k_iload_n eX7_isShelf_0 rfl ?_
  refine k_if_lt 14 eX7_isShelf_1 (by decide) (fun c_1 => ?_) (fun c_1 => ?_)
  · refine k_iconst (v := nI 0) eX7_isShelf_14 (by decide) ?_
    refine k_ireturn eX7_isShelf_15 rfl rfl ?_
    exact ⟨rt_f (fun q => by first | exact absurd q.1 (Int32.not_le.mpr (by assumption)) | exact absurd q.2 (Int32.not_lt.mpr (by assumption))), rfl⟩
  refine k_iload_n eX7_isShelf_4 rfl ?_
  refine k_bipush (v := nI 6) eX7_isShelf_5 (by decide) ?_
  refine k_icmp_ge 14 eX7_isShelf_7 (by decide) (fun c_7 => ?_) (fun c_7 => ?_)
  · refine k_iconst (v := nI 0) eX7_isShelf_14 (by decide) ?_
    refine k_ireturn eX7_isShelf_15 rfl rfl ?_
    exact ⟨rt_f (fun q => by first | exact absurd q.1 (Int32.not_le.mpr (by assumption)) | exact absurd q.2 (Int32.not_lt.mpr (by assumption))), rfl⟩
  refine k_iconst (v := nI 1) eX7_isShelf_10 (by decide) ?_
  refine k_goto 15 eX7_isShelf_11 (by decide) ?_
  refine k_ireturn eX7_isShelf_15 rfl rfl ?_
  exact ⟨rt_t ⟨Int32.not_lt.mp c_1, Int32.not_le.mp c_7⟩, rfl⟩
set_option maxHeartbeats 400000 in
theorem pX7_isEmpty {S : k_S} {j : Nat} (hj : j < 6) : Sp 1 0 0 MX7_isEmpty [.ref 7, .int (nI j)] (hp S) (Rt (some (.int (b2i (S.2.1 8 j = -2)))) (hp S)) := by
  refine Sp_of (by decide +kernel) (Nat.le_of_ble_eq_true rfl) ?_
  show AW none MX7_isEmpty 1 0 0 0 [.ref 7, .int (nI j)] [] (hp S) _
  refine k_aload_n eX7_isEmpty_0 rfl ?_
  refine GX7_11 eX7_isEmpty_1 rfl ?_
  refine k_iload_n eX7_isEmpty_4 rfl ?_
  refine cN1 (M' := MX11_read) eX7_isEmpty_5 mX7_25 wX11_read sX11_read rfl (pX11_readN (j := j) (ar8 _) (by omega) (by decide)) (by decide) (Nat.le_of_ble_eq_true rfl) ?_
  refine k_bipush (v := (-2)) eX7_isEmpty_8 (by decide) ?_
  refine k_icmp_ne 17 eX7_isEmpty_10 (by decide) (fun c_10 => ?_) (fun c_10 => ?_)
  · refine k_iconst (v := nI 0) eX7_isEmpty_17 (by decide) ?_
    refine k_ireturn eX7_isEmpty_18 rfl rfl ?_
    exact ⟨rt_f c_10, rfl⟩
  refine k_iconst (v := nI 1) eX7_isEmpty_13 (by decide) ?_
  refine k_goto 18 eX7_isEmpty_14 (by decide) ?_
  refine k_ireturn eX7_isEmpty_18 rfl rfl ?_
  exact ⟨rt_t c_10, rfl⟩
set_option maxHeartbeats 400000 in
theorem pX7_holdsOtherThan {S : k_S} {j : Nat} (hj : j < 6) (v : Int32) : Sp 2 0 0 MX7_holdsOtherThan [.ref 7, .int (nI j), .int (v)] (hp S) (Rt (some (.int (b2i (¬ S.2.1 8 j = -2 ∧ ¬ S.2.1 8 j = v)))) (hp S)) := by
  refine Sp_of (by decide +kernel) (Nat.le_of_ble_eq_true rfl) ?_
  show AW none MX7_holdsOtherThan 2 0 0 0 [.ref 7, .int (nI j), .int (v)] [] (hp S) _
  refine k_aload_n eX7_holdsOtherThan_0 rfl ?_
  refine k_iload_n eX7_holdsOtherThan_1 rfl ?_
  refine cV1 (M' := MX7_isEmpty) eX7_holdsOtherThan_2 mX7_29 wX7_isEmpty vX7_isEmpty ⟨_, _, _, rfl, rfl, rfl⟩ rfl (pX7_isEmpty (S := S) (j := j) (by omega)) (by decide) (Nat.le_of_ble_eq_true rfl) ?_
  refine k_ifb_ne 24 eX7_holdsOtherThan_5 (by decide) (fun c_5 => ?_) (fun c_5 => ?_)
  · refine k_iconst (v := nI 0) eX7_holdsOtherThan_24 (by decide) ?_
    refine k_ireturn eX7_holdsOtherThan_25 rfl rfl ?_
    exact ⟨rt_f (fun q => by first | exact q.1 c_5 | exact q.2 c_17), rfl⟩
  refine k_aload_n eX7_holdsOtherThan_8 rfl ?_
  refine GX7_11 eX7_holdsOtherThan_9 rfl ?_
  refine k_iload_n eX7_holdsOtherThan_12 rfl ?_
  refine cN1 (M' := MX11_read) eX7_holdsOtherThan_13 mX7_25 wX11_read sX11_read rfl (pX11_readN (j := j) (ar8 _) (by omega) (by decide)) (by decide) (Nat.le_of_ble_eq_true rfl) ?_
  refine k_iload_n eX7_holdsOtherThan_16 rfl ?_
  refine k_icmp_eq 24 eX7_holdsOtherThan_17 (by decide) (fun c_17 => ?_) (fun c_17 => ?_)
  · refine k_iconst (v := nI 0) eX7_holdsOtherThan_24 (by decide) ?_
    refine k_ireturn eX7_holdsOtherThan_25 rfl rfl ?_
    exact ⟨rt_f (fun q => by first | exact q.1 c_5 | exact q.2 c_17), rfl⟩
  refine k_iconst (v := nI 1) eX7_holdsOtherThan_20 (by decide) ?_
  refine k_goto 25 eX7_holdsOtherThan_21 (by decide) ?_
  refine k_ireturn eX7_holdsOtherThan_25 rfl rfl ?_
  exact ⟨rt_t ⟨c_5, c_17⟩, rfl⟩
set_option maxHeartbeats 400000 in
theorem pX7_planOn {S : k_S} {j : Nat} (hj : j < 6) : Sp 1 0 0 MX7_planOn [.ref 7, .int (nI j)] (hp S) (Rt (some (.int (S.2.1 9 j))) (hp S)) := by
  refine Sp_of (by decide +kernel) (Nat.le_of_ble_eq_true rfl) ?_
  show AW none MX7_planOn 1 0 0 0 [.ref 7, .int (nI j)] [] (hp S) _
  refine k_aload_n eX7_planOn_0 rfl ?_
  refine GX7_15 eX7_planOn_1 rfl ?_
  refine k_iload_n eX7_planOn_4 rfl ?_
  refine cN1 (M' := MX11_read) eX7_planOn_5 mX7_25 wX11_read sX11_read rfl (pX11_readN (j := j) (ar9 _) (by omega) (by decide)) (by decide) (Nat.le_of_ble_eq_true rfl) ?_
  refine k_ireturn eX7_planOn_8 rfl rfl ?_
  exact ⟨rfl, rfl⟩
set_option maxHeartbeats 400000 in
theorem pX7_isRow {S : k_S} {j : Nat} (hj : j < 6) : Sp 1 0 0 MX7_isRow [.ref 7, .int (nI j)] (hp S) (Rt (some (.int (b2i (0 ≤ S.2.1 8 j)))) (hp S)) := by
  refine Sp_of (by decide +kernel) (Nat.le_of_ble_eq_true rfl) ?_
  show AW none MX7_isRow 1 0 0 0 [.ref 7, .int (nI j)] [] (hp S) _
  refine k_aload_n eX7_isRow_0 rfl ?_
  refine k_iload_n eX7_isRow_1 rfl ?_
  refine cV1 (M' := MX7_isShelf) eX7_isRow_2 mX7_41 wX7_isShelf vX7_isShelf ⟨_, _, _, rfl, rfl, rfl⟩ rfl (pX7_isShelf (S := S) (nI j)) (by decide) (Nat.le_of_ble_eq_true rfl) ?_
  refine k_ifb_eq 23 eX7_isRow_5 (by decide) (fun c_5 => by exact absurd (show pSh (nI j) from ⟨nI_pos' (by omega), nI_lt hj (by decide)⟩) c_5) (fun c_5 => ?_)
  refine k_aload_n eX7_isRow_8 rfl ?_
  refine GX7_11 eX7_isRow_9 rfl ?_
  refine k_iload_n eX7_isRow_12 rfl ?_
  refine cN1 (M' := MX11_read) eX7_isRow_13 mX7_25 wX11_read sX11_read rfl (pX11_readN (j := j) (ar8 _) (by omega) (by decide)) (by decide) (Nat.le_of_ble_eq_true rfl) ?_
  refine k_if_lt 23 eX7_isRow_16 (by decide) (fun c_16 => ?_) (fun c_16 => ?_)
  · refine k_iconst (v := nI 0) eX7_isRow_23 (by decide) ?_
    refine k_ireturn eX7_isRow_24 rfl rfl ?_
    exact ⟨rt_f (Int32.not_le.mpr c_16), rfl⟩
  refine k_iconst (v := nI 1) eX7_isRow_19 (by decide) ?_
  refine k_goto 24 eX7_isRow_20 (by decide) ?_
  refine k_ireturn eX7_isRow_24 rfl rfl ?_
  exact ⟨rt_t (Int32.not_lt.mp c_16), rfl⟩
set_option maxHeartbeats 400000 in
theorem pX7_isPlace {S : k_S} {j : Nat} (hj : j < 6) (i : Int32) : Sp 2 0 0 MX7_isPlace [.ref 7, .int (nI j), .int (i)] (hp S) (Rt (some (.int (b2i (0 ≤ S.2.1 8 j ∧ 0 ≤ i ∧ i < S.2.1 9 j)))) (hp S)) := by
  refine Sp_of (by decide +kernel) (Nat.le_of_ble_eq_true rfl) ?_
  show AW none MX7_isPlace 2 0 0 0 [.ref 7, .int (nI j), .int (i)] [] (hp S) _
  refine k_aload_n eX7_isPlace_0 rfl ?_
  refine k_iload_n eX7_isPlace_1 rfl ?_
  refine cV1 (M' := MX7_isRow) eX7_isPlace_2 mX7_44 wX7_isRow vX7_isRow ⟨_, _, _, rfl, rfl, rfl⟩ rfl (pX7_isRow (S := S) (j := j) (by omega)) (by decide) (Nat.le_of_ble_eq_true rfl) ?_
  refine k_ifb_eq 28 eX7_isPlace_5 (by decide) (fun c_5 => ?_) (fun c_5 => ?_)
  · refine k_iconst (v := nI 0) eX7_isPlace_28 (by decide) ?_
    refine k_ireturn eX7_isPlace_29 rfl rfl ?_
    exact ⟨rt_f (fun q => by first | exact absurd q.1 c_5 | exact absurd q.2.1 (Int32.not_le.mpr c_9) | exact absurd q.2.2 (Int32.not_lt.mpr c_21)), rfl⟩
  refine k_iload_n eX7_isPlace_8 rfl ?_
  refine k_if_lt 28 eX7_isPlace_9 (by decide) (fun c_9 => ?_) (fun c_9 => ?_)
  · refine k_iconst (v := nI 0) eX7_isPlace_28 (by decide) ?_
    refine k_ireturn eX7_isPlace_29 rfl rfl ?_
    exact ⟨rt_f (fun q => by first | exact absurd q.1 c_5 | exact absurd q.2.1 (Int32.not_le.mpr c_9) | exact absurd q.2.2 (Int32.not_lt.mpr c_21)), rfl⟩
  refine k_iload_n eX7_isPlace_12 rfl ?_
  refine k_aload_n eX7_isPlace_13 rfl ?_
  refine GX7_15 eX7_isPlace_14 rfl ?_
  refine k_iload_n eX7_isPlace_17 rfl ?_
  refine cN1 (M' := MX11_read) eX7_isPlace_18 mX7_25 wX11_read sX11_read rfl (pX11_readN (j := j) (ar9 _) (by omega) (by decide)) (by decide) (Nat.le_of_ble_eq_true rfl) ?_
  refine k_icmp_ge 28 eX7_isPlace_21 (by decide) (fun c_21 => ?_) (fun c_21 => ?_)
  · refine k_iconst (v := nI 0) eX7_isPlace_28 (by decide) ?_
    refine k_ireturn eX7_isPlace_29 rfl rfl ?_
    exact ⟨rt_f (fun q => by first | exact absurd q.1 c_5 | exact absurd q.2.1 (Int32.not_le.mpr c_9) | exact absurd q.2.2 (Int32.not_lt.mpr c_21)), rfl⟩
  refine k_iconst (v := nI 1) eX7_isPlace_24 (by decide) ?_
  refine k_goto 29 eX7_isPlace_25 (by decide) ?_
  refine k_ireturn eX7_isPlace_29 rfl rfl ?_
  exact ⟨rt_t ⟨c_5, Int32.not_lt.mp c_9, Int32.not_le.mp c_21⟩, rfl⟩
set_option maxHeartbeats 400000 in
theorem pX7_isStretch {S : k_S} {j : Nat} (hj : j < 6) (i n : Int32) : Sp 1 0 0 MX7_isStretch [.ref 7, .int (nI j), .int (i), .int (n)] (hp S) (Rt (some (.int (b2i (0 ≤ i ∧ 0 ≤ n ∧ i ≤ S.2.1 9 j ∧ n ≤ S.2.1 9 j - i)))) (hp S)) := by
  refine Sp_of (by decide +kernel) (Nat.le_of_ble_eq_true rfl) ?_
  show AW none MX7_isStretch 1 0 0 0 [.ref 7, .int (nI j), .int (i), .int (n), .null] [] (hp S) _
  refine k_aload_n eX7_isStretch_0 rfl ?_
  refine GX7_15 eX7_isStretch_1 rfl ?_
  refine k_iload_n eX7_isStretch_4 rfl ?_
  refine cN1 (M' := MX11_read) eX7_isStretch_5 mX7_25 wX11_read sX11_read rfl (pX11_readN (j := j) (ar9 _) (by omega) (by decide)) (by decide) (Nat.le_of_ble_eq_true rfl) ?_
  refine k_istore (L2 := [_, _, _, _, _]) eX7_isStretch_8 (Nat.le_of_ble_eq_true rfl) rfl ?_
  refine k_iload_n eX7_isStretch_10 rfl ?_
  refine k_if_lt 36 eX7_isStretch_11 (by decide) (fun c_11 => ?_) (fun c_11 => ?_)
  · refine k_iconst (v := nI 0) eX7_isStretch_36 (by decide) ?_
    refine k_ireturn eX7_isStretch_37 rfl rfl ?_
    exact ⟨rt_f (fun q => by first | exact absurd q.1 (Int32.not_le.mpr c_11) | exact absurd q.2.1 (Int32.not_le.mpr c_15) | exact absurd q.2.2.1 (Int32.not_le.mpr c_21) | exact absurd q.2.2.2 (Int32.not_le.mpr c_29)), rfl⟩
  refine k_iload_n eX7_isStretch_14 rfl ?_
  refine k_if_lt 36 eX7_isStretch_15 (by decide) (fun c_15 => ?_) (fun c_15 => ?_)
  · refine k_iconst (v := nI 0) eX7_isStretch_36 (by decide) ?_
    refine k_ireturn eX7_isStretch_37 rfl rfl ?_
    exact ⟨rt_f (fun q => by first | exact absurd q.1 (Int32.not_le.mpr c_11) | exact absurd q.2.1 (Int32.not_le.mpr c_15) | exact absurd q.2.2.1 (Int32.not_le.mpr c_21) | exact absurd q.2.2.2 (Int32.not_le.mpr c_29)), rfl⟩
  refine k_iload_n eX7_isStretch_18 rfl ?_
  refine k_iload eX7_isStretch_19 rfl ?_
  refine k_icmp_gt 36 eX7_isStretch_21 (by decide) (fun c_21 => ?_) (fun c_21 => ?_)
  · refine k_iconst (v := nI 0) eX7_isStretch_36 (by decide) ?_
    refine k_ireturn eX7_isStretch_37 rfl rfl ?_
    exact ⟨rt_f (fun q => by first | exact absurd q.1 (Int32.not_le.mpr c_11) | exact absurd q.2.1 (Int32.not_le.mpr c_15) | exact absurd q.2.2.1 (Int32.not_le.mpr c_21) | exact absurd q.2.2.2 (Int32.not_le.mpr c_29)), rfl⟩
  refine k_iload_n eX7_isStretch_24 rfl ?_
  refine k_iload eX7_isStretch_25 rfl ?_
  refine k_iload_n eX7_isStretch_27 rfl ?_
  refine k_isub eX7_isStretch_28 ?_
  refine k_icmp_gt 36 eX7_isStretch_29 (by decide) (fun c_29 => ?_) (fun c_29 => ?_)
  · refine k_iconst (v := nI 0) eX7_isStretch_36 (by decide) ?_
    refine k_ireturn eX7_isStretch_37 rfl rfl ?_
    exact ⟨rt_f (fun q => by first | exact absurd q.1 (Int32.not_le.mpr c_11) | exact absurd q.2.1 (Int32.not_le.mpr c_15) | exact absurd q.2.2.1 (Int32.not_le.mpr c_21) | exact absurd q.2.2.2 (Int32.not_le.mpr c_29)), rfl⟩
  refine k_iconst (v := nI 1) eX7_isStretch_32 (by decide) ?_
  refine k_goto 37 eX7_isStretch_33 (by decide) ?_
  refine k_ireturn eX7_isStretch_37 rfl rfl ?_
  exact ⟨rt_t ⟨Int32.not_lt.mp c_11, Int32.not_lt.mp c_15, Int32.not_lt.mp c_21, Int32.not_lt.mp c_29⟩, rfl⟩
set_option maxHeartbeats 400000 in
theorem pX7_areRowsAlike {S : k_S} {j k : Nat} (hj : j < 6) (hk : k < 6) : Sp 2 0 0 MX7_areRowsAlike [.ref 7, .int (nI j), .int (nI k)] (hp S) (Rt (some (.int (b2i (0 ≤ S.2.1 8 j ∧ 0 ≤ S.2.1 8 k ∧ S.2.1 8 j = S.2.1 8 k)))) (hp S)) := by
  refine Sp_of (by decide +kernel) (Nat.le_of_ble_eq_true rfl) ?_
  show AW none MX7_areRowsAlike 2 0 0 0 [.ref 7, .int (nI j), .int (nI k)] [] (hp S) _
  refine k_aload_n eX7_areRowsAlike_0 rfl ?_
  refine k_iload_n eX7_areRowsAlike_1 rfl ?_
  refine cV1 (M' := MX7_isRow) eX7_areRowsAlike_2 mX7_44 wX7_isRow vX7_isRow ⟨_, _, _, rfl, rfl, rfl⟩ rfl (pX7_isRow (S := S) (j := j) (by omega)) (by decide) (Nat.le_of_ble_eq_true rfl) ?_
  refine k_ifb_eq 39 eX7_areRowsAlike_5 (by decide) (fun c_5 => ?_) (fun c_5 => ?_)
  · refine k_iconst (v := nI 0) eX7_areRowsAlike_39 (by decide) ?_
    refine k_ireturn eX7_areRowsAlike_40 rfl rfl ?_
    exact ⟨rt_f (fun q => by first | exact absurd q.1 c_5 | exact absurd q.2.1 c_13 | exact absurd q.2.2 c_32), rfl⟩
  refine k_aload_n eX7_areRowsAlike_8 rfl ?_
  refine k_iload_n eX7_areRowsAlike_9 rfl ?_
  refine cV1 (M' := MX7_isRow) eX7_areRowsAlike_10 mX7_44 wX7_isRow vX7_isRow ⟨_, _, _, rfl, rfl, rfl⟩ rfl (pX7_isRow (S := S) (j := k) (by omega)) (by decide) (Nat.le_of_ble_eq_true rfl) ?_
  refine k_ifb_eq 39 eX7_areRowsAlike_13 (by decide) (fun c_13 => ?_) (fun c_13 => ?_)
  · refine k_iconst (v := nI 0) eX7_areRowsAlike_39 (by decide) ?_
    refine k_ireturn eX7_areRowsAlike_40 rfl rfl ?_
    exact ⟨rt_f (fun q => by first | exact absurd q.1 c_5 | exact absurd q.2.1 c_13 | exact absurd q.2.2 c_32), rfl⟩
  refine k_aload_n eX7_areRowsAlike_16 rfl ?_
  refine GX7_11 eX7_areRowsAlike_17 rfl ?_
  refine k_iload_n eX7_areRowsAlike_20 rfl ?_
  refine cN1 (M' := MX11_read) eX7_areRowsAlike_21 mX7_25 wX11_read sX11_read rfl (pX11_readN (j := j) (ar8 _) (by omega) (by decide)) (by decide) (Nat.le_of_ble_eq_true rfl) ?_
  refine k_aload_n eX7_areRowsAlike_24 rfl ?_
  refine GX7_11 eX7_areRowsAlike_25 rfl ?_
  refine k_iload_n eX7_areRowsAlike_28 rfl ?_
  refine cN1 (M' := MX11_read) eX7_areRowsAlike_29 mX7_25 wX11_read sX11_read rfl (pX11_readN (j := k) (ar8 _) (by omega) (by decide)) (by decide) (Nat.le_of_ble_eq_true rfl) ?_
  refine k_icmp_ne 39 eX7_areRowsAlike_32 (by decide) (fun c_32 => ?_) (fun c_32 => ?_)
  · refine k_iconst (v := nI 0) eX7_areRowsAlike_39 (by decide) ?_
    refine k_ireturn eX7_areRowsAlike_40 rfl rfl ?_
    exact ⟨rt_f (fun q => by first | exact absurd q.1 c_5 | exact absurd q.2.1 c_13 | exact absurd q.2.2 c_32), rfl⟩
  refine k_iconst (v := nI 1) eX7_areRowsAlike_35 (by decide) ?_
  refine k_goto 40 eX7_areRowsAlike_36 (by decide) ?_
  refine k_ireturn eX7_areRowsAlike_40 rfl rfl ?_
  exact ⟨rt_t ⟨c_5, c_13, c_32⟩, rfl⟩
def rfs (S : k_S) (v i : Int32) : Int32 := if ¬ pSh v then -1 else if S.2.1 8 (ix v) = -2 then -11 else if ¬ 0 ≤ S.2.1 8 (ix v) then -12 else if 0 ≤ i ∧ i < S.2.1 9 (ix v) then nI 0 else -13
set_option maxHeartbeats 400000 in
theorem pX7_refusalOf {S : k_S} {j : Nat} (hj : j < 6) (i : Int32) : Sp 3 0 0 MX7_refusalOf [.ref 7, .int (nI j), .int (i)] (hp S) (Rt (some (.int (rfs S (nI j) i))) (hp S)) := by
  refine Sp_of (by decide +kernel) (Nat.le_of_ble_eq_true rfl) ?_
  show AW none MX7_refusalOf 3 0 0 0 [.ref 7, .int (nI j), .int (i)] [] (hp S) _
  refine k_aload_n eX7_refusalOf_0 rfl ?_
  refine k_iload_n eX7_refusalOf_1 rfl ?_
  refine cV1 (M' := MX7_isShelf) eX7_refusalOf_2 mX7_41 wX7_isShelf vX7_isShelf ⟨_, _, _, rfl, rfl, rfl⟩ rfl (pX7_isShelf (S := S) (nI j)) (by decide) (Nat.le_of_ble_eq_true rfl) ?_
  refine k_ifb_ne 10 eX7_refusalOf_5 (by decide) (fun c_5 => ?_) (fun c_5 => by exact absurd (show pSh (nI j) from ⟨nI_pos' (by omega), nI_lt hj (by decide)⟩) c_5)
  have e0 : rfs S (nI j) i = if S.2.1 8 j = -2 then -11 else if ¬ 0 ≤ S.2.1 8 j then -12 else if 0 ≤ i ∧ i < S.2.1 9 j then nI 0 else -13 := by rw [rfs, if_neg (not_not_intro c_5), ix_nI (by omega)]
  refine k_aload_n eX7_refusalOf_10 rfl ?_
  refine k_iload_n eX7_refusalOf_11 rfl ?_
  refine cV1 (M' := MX7_isEmpty) eX7_refusalOf_12 mX7_29 wX7_isEmpty vX7_isEmpty ⟨_, _, _, rfl, rfl, rfl⟩ rfl (pX7_isEmpty (S := S) (j := j) (by omega)) (by decide) (Nat.le_of_ble_eq_true rfl) ?_
  refine k_ifb_eq 21 eX7_refusalOf_15 (by decide) (fun c_15 => ?_) (fun c_15 => ?_)
  · refine k_aload_n eX7_refusalOf_21 rfl ?_
    refine k_iload_n eX7_refusalOf_22 rfl ?_
    refine cV1 (M' := MX7_isRow) eX7_refusalOf_23 mX7_44 wX7_isRow vX7_isRow ⟨_, _, _, rfl, rfl, rfl⟩ rfl (pX7_isRow (S := S) (j := j) (by omega)) (by decide) (Nat.le_of_ble_eq_true rfl) ?_
    refine k_ifb_ne 32 eX7_refusalOf_26 (by decide) (fun c_26 => ?_) (fun c_26 => ?_)
    · refine k_aload_n eX7_refusalOf_32 rfl ?_
      refine k_iload_n eX7_refusalOf_33 rfl ?_
      refine k_iload_n eX7_refusalOf_34 rfl ?_
      refine cV1 (M' := MX7_isPlace) eX7_refusalOf_35 mX7_47 wX7_isPlace vX7_isPlace ⟨_, _, _, rfl, rfl, rfl⟩ rfl (pX7_isPlace (S := S) (j := j) (by omega) (i)) (by decide) (Nat.le_of_ble_eq_true rfl) ?_
      refine k_ifb_eq 45 eX7_refusalOf_38 (by decide) (fun c_38 => ?_) (fun c_38 => ?_)
      · refine k_bipush (v := (-13)) eX7_refusalOf_45 (by decide) ?_
        refine k_ireturn eX7_refusalOf_47 rfl rfl ?_
        exact ⟨by rw [e0, if_neg c_15, if_neg (not_not_intro c_26), if_neg (fun q => c_38 ⟨c_26, q⟩)], rfl⟩
      refine k_iconst (v := nI 0) eX7_refusalOf_41 (by decide) ?_
      refine k_goto 47 eX7_refusalOf_42 (by decide) ?_
      refine k_ireturn eX7_refusalOf_47 rfl rfl ?_
      exact ⟨by rw [e0, if_neg c_15, if_neg (not_not_intro c_26), if_pos ⟨c_38.2.1, c_38.2.2⟩], rfl⟩
    refine k_bipush (v := (-12)) eX7_refusalOf_29 (by decide) ?_
    refine k_ireturn eX7_refusalOf_31 rfl rfl ?_
    exact ⟨by rw [e0, if_neg c_15, if_pos c_26], rfl⟩
  refine k_bipush (v := (-11)) eX7_refusalOf_18 (by decide) ?_
  refine k_ireturn eX7_refusalOf_20 rfl rfl ?_
  exact ⟨by rw [e0, if_pos c_15], rfl⟩
set_option maxHeartbeats 400000 in
theorem pX7_refusalOfN {S : k_S} (v i : Int32) (hv : ¬ pSh v) : Sp 1 0 0 MX7_refusalOf [.ref 7, .int (v), .int (i)] (hp S) (Rt (some (.int (-1))) (hp S)) := by
  refine Sp_of (by decide +kernel) (Nat.le_of_ble_eq_true rfl) ?_
  show AW none MX7_refusalOf 1 0 0 0 [.ref 7, .int (v), .int (i)] [] (hp S) _
  refine k_aload_n eX7_refusalOf_0 rfl ?_
  refine k_iload_n eX7_refusalOf_1 rfl ?_
  refine cV1 (M' := MX7_isShelf) eX7_refusalOf_2 mX7_41 wX7_isShelf vX7_isShelf ⟨_, _, _, rfl, rfl, rfl⟩ rfl (pX7_isShelf (S := S) (v)) (by decide) (Nat.le_of_ble_eq_true rfl) ?_
  refine k_ifb_ne 10 eX7_refusalOf_5 (by decide) (fun c_5 => by exact absurd c_5 hv) (fun c_5 => ?_)
  refine k_iconst (v := (-1)) eX7_refusalOf_8 (by decide) ?_
  refine k_ireturn eX7_refusalOf_9 rfl rfl ?_
  exact ⟨rfl, rfl⟩
set_option maxHeartbeats 400000 in
theorem pX7_elementAt {S : k_S} {j i : Nat} (hj : j < 6) (hi : i < 60) : Sp 0 0 0 MX7_elementAt [.ref 7, .int (nI j), .int (nI i)] (hp S) (Rt (some (.long (S.2.2 10 (j * 60 + i)))) (hp S)) := by
  refine Sp_of (by decide +kernel) (Nat.le_of_ble_eq_true rfl) ?_
  show AW none MX7_elementAt 0 0 0 0 [.ref 7, .int (nI j), .int (nI i), .null] [] (hp S) _
  refine k_iload_n eX7_elementAt_0 rfl ?_
  refine k_bipush (v := nI 60) eX7_elementAt_1 (by decide) ?_
  refine k_imulN eX7_elementAt_3 ?_
  refine k_iload_n eX7_elementAt_4 rfl ?_
  refine k_iaddN eX7_elementAt_5 ?_
  refine k_istore_n (L2 := [_, _, _, _]) eX7_elementAt_6 (Nat.le_of_ble_eq_true rfl) rfl ?_
  refine k_iload_n eX7_elementAt_7 rfl ?_
  refine k_if_ltN 29 eX7_elementAt_8 (by decide) (by omega) ?_
  refine k_iload_n eX7_elementAt_11 rfl ?_
  refine k_aload_n eX7_elementAt_12 rfl ?_
  refine GX7_18 eX7_elementAt_13 rfl ?_
  refine k_alenJ eX7_elementAt_16 (ar10 _) ?_
  refine k_topi (nI 360) rfl ?_
  refine k_icmp_geN 29 eX7_elementAt_17 (by decide) (by omega) (by omega) (fun c_17 => by exfalso; omega) (fun c_17 => ?_)
  refine k_aload_n eX7_elementAt_20 rfl ?_
  refine GX7_18 eX7_elementAt_21 rfl ?_
  refine k_iload_n eX7_elementAt_24 rfl ?_
  refine k_laldN (j := ((j * 60) + i)) eX7_elementAt_25 (ar10 _) (by omega) (Nat.le_of_ble_eq_true rfl) ?_
  refine k_goto 30 eX7_elementAt_26 (by decide) ?_
  refine k_lreturn eX7_elementAt_30 rfl ?_
  exact ⟨rfl, rfl⟩
set_option maxHeartbeats 400000 in
theorem pX7_setRaw {S : k_S} {p : Nat} (hpp : p < 360) (v : Int64) : Sp 0 0 0 MX7_setRaw [.ref 7, .int (nI p), .long (v)] (hp S) (Rt (none) (hp (sj S 10 (va_up (S.2.2 10) p v)))) := by
  refine Sp_of (by decide +kernel) (Nat.le_of_ble_eq_true rfl) ?_
  show AW none MX7_setRaw 0 0 0 0 [.ref 7, .int (nI p), .long (v), .null] [] (hp S) _
  refine k_iload_n eX7_setRaw_0 rfl ?_
  refine k_if_ltN 20 eX7_setRaw_1 (by decide) (by omega) ?_
  refine k_iload_n eX7_setRaw_4 rfl ?_
  refine k_aload_n eX7_setRaw_5 rfl ?_
  refine GX7_18 eX7_setRaw_6 rfl ?_
  refine k_alenJ eX7_setRaw_9 (ar10 _) ?_
  refine k_topi (nI 360) rfl ?_
  refine k_icmp_geN 20 eX7_setRaw_10 (by decide) (by omega) (by omega) (fun c_10 => by exfalso; omega) (fun c_10 => ?_)
  refine k_aload_n eX7_setRaw_13 rfl ?_
  refine GX7_18 eX7_setRaw_14 rfl ?_
  refine k_iload_n eX7_setRaw_17 rfl ?_
  refine k_lload_n eX7_setRaw_18 rfl ?_
  refine k_lastN (j := p) eX7_setRaw_19 (ar10 _) (by omega) (Nat.le_of_ble_eq_true rfl) (as10 _ _) ?_
  refine k_return eX7_setRaw_20 rfl ?_
  exact ⟨rfl, rfl⟩
theorem lg_cmp_0 (x y : Int64) : (lg_cmp x y = 0) ↔ x = y := by
  unfold lg_cmp
  by_cases h : x > y
  · rw [if_pos h]; exact ⟨fun q => absurd q (by decide), fun q => by subst q; exact absurd h (by simp)⟩
  · rw [if_neg h]
    by_cases h2 : x = y
    · rw [if_pos h2]; exact ⟨fun _ => h2, fun _ => rfl⟩
    · rw [if_neg h2]; exact ⟨fun q => absurd q (by decide), fun q => absurd q h2⟩
set_option maxHeartbeats 400000 in
theorem pX7_lowestBits0 {S : k_S} (v : Int64) : Sp 0 0 0 MX7_lowestBits [.int (nI 0), .long (v)] (hp S) (Rt (some (.long (lowb 0 v))) (hp S)) := by
  refine Sp_of (by decide +kernel) (Nat.le_of_ble_eq_true rfl) ?_
  show AW none MX7_lowestBits 0 0 0 0 [.int (nI 0), .long (v), .null] [] (hp S) _
  refine k_iload_n eX7_lowestBits_0 rfl ?_
  refine k_tabIn 36 (off := 35) eX7_lowestBits_1 (by decide) (by decide) (by decide) (by decide) ?_
  refine k_lload_n eX7_lowestBits_36 rfl ?_
  refine k_l2i eX7_lowestBits_37 ?_
  refine k_i2b eX7_lowestBits_38 ?_
  refine k_i2l eX7_lowestBits_39 ?_
  refine k_lreturn eX7_lowestBits_40 rfl ?_
  exact ⟨rfl, rfl⟩
set_option maxHeartbeats 400000 in
theorem pX7_lowestBits1 {S : k_S} (v : Int64) : Sp 0 0 0 MX7_lowestBits [.int (nI 1), .long (v)] (hp S) (Rt (some (.long (lowb 1 v))) (hp S)) := by
  refine Sp_of (by decide +kernel) (Nat.le_of_ble_eq_true rfl) ?_
  show AW none MX7_lowestBits 0 0 0 0 [.int (nI 1), .long (v), .null] [] (hp S) _
  refine k_iload_n eX7_lowestBits_0 rfl ?_
  refine k_tabIn 41 (off := 40) eX7_lowestBits_1 (by decide) (by decide) (by decide) (by decide) ?_
  refine k_lload_n eX7_lowestBits_41 rfl ?_
  refine k_l2i eX7_lowestBits_42 ?_
  refine k_i2s eX7_lowestBits_43 ?_
  refine k_i2l eX7_lowestBits_44 ?_
  refine k_lreturn eX7_lowestBits_45 rfl ?_
  exact ⟨rfl, rfl⟩
set_option maxHeartbeats 400000 in
theorem pX7_lowestBits2 {S : k_S} (v : Int64) : Sp 0 0 0 MX7_lowestBits [.int (nI 2), .long (v)] (hp S) (Rt (some (.long (lowb 2 v))) (hp S)) := by
  refine Sp_of (by decide +kernel) (Nat.le_of_ble_eq_true rfl) ?_
  show AW none MX7_lowestBits 0 0 0 0 [.int (nI 2), .long (v), .null] [] (hp S) _
  refine k_iload_n eX7_lowestBits_0 rfl ?_
  refine k_tabIn 46 (off := 45) eX7_lowestBits_1 (by decide) (by decide) (by decide) (by decide) ?_
  refine k_lload_n eX7_lowestBits_46 rfl ?_
  refine k_l2i eX7_lowestBits_47 ?_
  refine k_i2l eX7_lowestBits_48 ?_
  refine k_lreturn eX7_lowestBits_49 rfl ?_
  exact ⟨rfl, rfl⟩
set_option maxHeartbeats 400000 in
theorem pX7_lowestBits3 {S : k_S} (v : Int64) : Sp 0 0 0 MX7_lowestBits [.int (nI 3), .long (v)] (hp S) (Rt (some (.long (lowb 3 v))) (hp S)) := by
  refine Sp_of (by decide +kernel) (Nat.le_of_ble_eq_true rfl) ?_
  show AW none MX7_lowestBits 0 0 0 0 [.int (nI 3), .long (v), .null] [] (hp S) _
  refine k_iload_n eX7_lowestBits_0 rfl ?_
  refine k_tabIn 62 (off := 61) eX7_lowestBits_1 (by decide) (by decide) (by decide) (by decide) ?_
  refine k_lload_n eX7_lowestBits_62 rfl ?_
  refine k_lreturn eX7_lowestBits_63 rfl ?_
  exact ⟨rfl, rfl⟩
set_option maxHeartbeats 400000 in
theorem pX7_lowestBits4 {S : k_S} (v : Int64) : Sp 0 0 0 MX7_lowestBits [.int (nI 4), .long (v)] (hp S) (Rt (some (.long (lowb 4 v))) (hp S)) := by
  refine Sp_of (by decide +kernel) (Nat.le_of_ble_eq_true rfl) ?_
  show AW none MX7_lowestBits 0 0 0 0 [.int (nI 4), .long (v), .null] [] (hp S) _
  refine k_iload_n eX7_lowestBits_0 rfl ?_
  refine k_tabIn 50 (off := 49) eX7_lowestBits_1 (by decide) (by decide) (by decide) (by decide) ?_
  refine k_lload_n eX7_lowestBits_50 rfl ?_
  refine k_lconst (v := 0) eX7_lowestBits_51 rfl ?_
  refine k_lcmp eX7_lowestBits_52 ?_
  refine k_if_eq 60 eX7_lowestBits_53 (by decide) (fun c_53 => ?_) (fun c_53 => ?_)
  · refine k_lconst (v := 0) eX7_lowestBits_60 rfl ?_
    refine k_lreturn eX7_lowestBits_61 rfl ?_
    exact ⟨by rw [lowb_4, if_pos (by rwa [lg_cmp_0] at c_53)], rfl⟩
  refine k_lconst (v := 1) eX7_lowestBits_56 rfl ?_
  refine k_goto 61 eX7_lowestBits_57 (by decide) ?_
  refine k_lreturn eX7_lowestBits_61 rfl ?_
  exact ⟨by rw [lowb_4, if_neg (by rwa [lg_cmp_0] at c_53)], rfl⟩
theorem pX7_lowestBits {S : k_S} {s : Nat} (hs : s < 5) (v : Int64) : Sp 0 0 0 MX7_lowestBits [.int (nI s), .long v] (hp S) (Rt (some (.long (lowb s v))) (hp S)) := by
  rcases (by omega : s = 0 ∨ s = 1 ∨ s = 2 ∨ s = 3 ∨ s = 4) with rfl | rfl | rfl | rfl | rfl
  · exact pX7_lowestBits0 v
  · exact pX7_lowestBits1 v
  · exact pX7_lowestBits2 v
  · exact pX7_lowestBits3 v
  · exact pX7_lowestBits4 v
set_option maxHeartbeats 400000 in
theorem pX7_setAt {S : k_S} {j i s : Nat} (hj : j < 6) (hi : i < 60) (hs : s < 5) (hso : S.2.1 8 j = nI s) (v : Int64) : Sp 1 0 0 MX7_setAt [.ref 7, .int (nI j), .int (nI i), .long (v)] (hp S) (Rt (none) (hp (sj S 10 (va_up (S.2.2 10) (j * 60 + i) (lowb s v))))) := by
  refine Sp_of (by decide +kernel) (Nat.le_of_ble_eq_true rfl) ?_
  show AW none MX7_setAt 1 0 0 0 [.ref 7, .int (nI j), .int (nI i), .long (v), .null] [] (hp S) _
  refine k_aload_n eX7_setAt_0 rfl ?_
  refine k_iload_n eX7_setAt_1 rfl ?_
  refine k_bipush (v := nI 60) eX7_setAt_2 (by decide) ?_
  refine k_imulN eX7_setAt_4 ?_
  refine k_iload_n eX7_setAt_5 rfl ?_
  refine k_iaddN eX7_setAt_6 ?_
  refine k_aload_n eX7_setAt_7 rfl ?_
  refine GX7_11 eX7_setAt_8 rfl ?_
  refine k_iload_n eX7_setAt_11 rfl ?_
  refine cN1 (M' := MX11_read) eX7_setAt_12 mX7_25 wX11_read sX11_read rfl (pX11_readN (j := j) (ar8 _) (by omega) (by decide)) (by decide) (Nat.le_of_ble_eq_true rfl) ?_
  refine k_topi (nI s) hso ?_
  refine k_lload_n eX7_setAt_15 rfl ?_
  refine cS1 (M' := MX7_lowestBits) eX7_setAt_16 mX7_51 wX7_lowestBits sX7_lowestBits rfl (pX7_lowestBits (S := S) (s := s) (by omega) (v)) (by decide) (Nat.le_of_ble_eq_true rfl) ?_
  refine cV0 (M' := MX7_setRaw) eX7_setAt_19 mX7_37 wX7_setRaw vX7_setRaw ⟨_, _, _, rfl, rfl, rfl⟩ rfl (pX7_setRaw (S := S) (p := ((j * 60) + i)) (by omega) ((lowb s (v)))) (by decide) (Nat.le_of_ble_eq_true rfl) ?_
  refine k_return eX7_setAt_22 rfl ?_
  exact ⟨rfl, rfl⟩
def hldS (S : k_S) (j : Nat) (w t : Int32) : k_S := sj (sa (sa S 8 (va_up (S.2.1 8) j w)) 9 (va_up (S.2.1 9) j t)) 10 (fillJ (fun _ => 0) (j * 60) (S.2.2 10) 60)
set_option maxHeartbeats 400000 in
theorem lX7_hold {d : Nat} {Po : Option Value → k_H → Prop} (hdd : 1 ≤ d) {S : k_S} {j : Nat} (hj : j < 6) (w t : Int32) (kx : AW none MX7_hold d 0 0 46 [.ref 7, .int (nI j), .int (w), .int (t), .int (nI 60)] [] (hp (sj S 10 (fillJ (fun _ => 0) (j * 60) (S.2.2 10) 60))) Po) : ∀ (n n1 : Nat), n1 + n = 60 → AW none MX7_hold d 0 0 21 [.ref 7, .int (nI j), .int (w), .int (t), .int (nI n1)] [] (hp (sj S 10 (fillJ (fun _ => 0) (j * 60) (S.2.2 10) n1))) Po := by
  intro n
  induction n with
  | zero =>
    intro n1 hn1
    rw [show n1 = 60 by omega]
    refine k_iload eX7_hold_21 rfl ?_
    refine k_bipush (v := nI 60) eX7_hold_23 (by decide) ?_
    refine k_icmp_geN 46 eX7_hold_25 (by decide) (by omega) (by omega) (fun c_25 => ?_) (fun c_25 => by exfalso; omega)
    exact kx
  | succ n ih =>
    intro n1 hn1
    refine k_iload eX7_hold_21 rfl ?_
    refine k_bipush (v := nI 60) eX7_hold_23 (by decide) ?_
    refine k_icmp_geN 46 eX7_hold_25 (by decide) (by omega) (by omega) (fun c_25 => by exfalso; omega) (fun c_25 => ?_)
    refine k_aload_n eX7_hold_28 rfl ?_
    refine k_iload_n eX7_hold_29 rfl ?_
    refine k_bipush (v := nI 60) eX7_hold_30 (by decide) ?_
    refine k_imulN eX7_hold_32 ?_
    refine k_iload eX7_hold_33 rfl ?_
    refine k_iaddN eX7_hold_35 ?_
    refine k_lconst (v := 0) eX7_hold_36 rfl ?_
    refine cV0 (M' := MX7_setRaw) eX7_hold_37 mX7_37 wX7_setRaw vX7_setRaw ⟨_, _, _, rfl, rfl, rfl⟩ rfl (pX7_setRaw (S := (sj S 10 (fillJ (fun _ => 0) (j * 60) (S.2.2 10) n1))) (p := ((j * 60) + n1)) (by omega) ((0 : Int64))) (by omega) (Nat.le_of_ble_eq_true rfl) ?_
    refine k_iincN (g := 1) (a := n1) (L2 := [_, _, _, _, _]) eX7_hold_40 (Nat.le_of_ble_eq_true rfl) rfl rfl ?_
    refine k_goto 21 eX7_hold_43 (by decide) ?_
    have q := ih (n1 + 1) (by omega)
    rw [fillJ] at q
    rw [sj_sj, sj_at]
    exact q
set_option maxHeartbeats 400000 in
theorem pX7_hold {S : k_S} {j : Nat} (hj : j < 6) (w t : Int32) : Sp 1 0 0 MX7_hold [.ref 7, .int (nI j), .int (w), .int (t)] (hp S) (Rt (none) (hp (hldS S j w t))) := by
  refine Sp_of (by decide +kernel) (Nat.le_of_ble_eq_true rfl) ?_
  show AW none MX7_hold 1 0 0 0 [.ref 7, .int (nI j), .int (w), .int (t), .null] [] (hp S) _
  refine k_aload_n eX7_hold_0 rfl ?_
  refine GX7_11 eX7_hold_1 rfl ?_
  refine k_iload_n eX7_hold_4 rfl ?_
  refine k_iload_n eX7_hold_5 rfl ?_
  refine cN0 (M' := MX11_write) eX7_hold_6 mX7_33 wX11_write sX11_write rfl (pX11_writeN (j := j) (v := w) (ar8 _) (by omega) (by decide) (as8 _ _)) (by decide) (Nat.le_of_ble_eq_true rfl) ?_
  refine k_aload_n eX7_hold_9 rfl ?_
  refine GX7_15 eX7_hold_10 rfl ?_
  refine k_iload_n eX7_hold_13 rfl ?_
  refine k_iload_n eX7_hold_14 rfl ?_
  refine cN0 (M' := MX11_write) eX7_hold_15 mX7_33 wX11_write sX11_write rfl (pX11_writeN (j := j) (v := t) (ar9 _) (by omega) (by decide) (as9 _ _)) (by decide) (Nat.le_of_ble_eq_true rfl) ?_
  refine k_iconst (v := nI 0) eX7_hold_18 (by decide) ?_
  refine k_istore (L2 := [_, _, _, _, _]) eX7_hold_19 (Nat.le_of_ble_eq_true rfl) rfl ?_
  refine k_heap (h2 := hp (sj (sa (sa S 8 (va_up ((S).2.1 8) j (w))) 9 (va_up (((sa S 8 (va_up ((S).2.1 8) j (w)))).2.1 9) j (t))) 10 (fillJ (fun _ => 0) (j * 60) (((sa (sa S 8 (va_up ((S).2.1 8) j (w))) 9 (va_up (((sa S 8 (va_up ((S).2.1 8) j (w)))).2.1 9) j (t)))).2.2 10) 0))) (by rw [fillJ, sj_self]) ?_
  refine lX7_hold (S := (sa (sa S 8 (va_up ((S).2.1 8) j (w))) 9 (va_up (((sa S 8 (va_up ((S).2.1 8) j (w)))).2.1 9) j (t)))) (by decide) hj w t ?_ 60 0 (by omega)
  refine k_return eX7_hold_46 rfl ?_
  exact ⟨rfl, rfl⟩
/-- n elements from i of shelf j on, first to the side, then to jj of shelf o on -/
def mvA (S : k_S) (j i n : Nat) : Nat → Int64 := fillJ (fun k => S.2.2 10 (j * 60 + (i + k))) 0 (S.2.2 11) n
def mvS (S : k_S) (j i o jj n : Nat) : k_S := sj (sj S 11 (mvA S j i n)) 10 (fillJ (mvA S j i n) (o * 60 + jj) (S.2.2 10) n)
set_option maxHeartbeats 400000 in
theorem lX7_movea {d : Nat} {Po : Option Value → k_H → Prop} (hdd : 1 ≤ d) {S : k_S} {j i o jj n0 : Nat} (hj : j < 6) (ho : o < 6) (hi : i + n0 ≤ 60) (hjj : jj + n0 ≤ 60) (kx : AW none MX7_move d 0 0 39 [.ref 7, .int (nI j), .int (nI i), .int (nI o), .int (nI jj), .int (nI n0), .int (nI n0)] [] (hp (sj S 11 (mvA S j i n0))) Po) : ∀ (n k : Nat), k + n = n0 → AW none MX7_move d 0 0 3 [.ref 7, .int (nI j), .int (nI i), .int (nI o), .int (nI jj), .int (nI n0), .int (nI k)] [] (hp (sj S 11 (mvA S j i k))) Po := by
  intro n
  induction n with
  | zero =>
    intro k hk
    rw [show k = n0 by omega]
    refine k_iload eX7_move_3 rfl ?_
    refine k_iload eX7_move_5 rfl ?_
    refine k_icmp_geN 39 eX7_move_7 (by decide) (by omega) (by omega) (fun c_7 => ?_) (fun c_7 => by exfalso; omega)
    exact kx
  | succ n ih =>
    intro k hk
    refine k_iload eX7_move_3 rfl ?_
    refine k_iload eX7_move_5 rfl ?_
    refine k_icmp_geN 39 eX7_move_7 (by decide) (by omega) (by omega) (fun c_7 => by exfalso; omega) (fun c_7 => ?_)
    refine k_iload eX7_move_10 rfl ?_
    refine k_bipush (v := nI 60) eX7_move_12 (by decide) ?_
    refine k_icmp_geN 39 eX7_move_14 (by decide) (by omega) (by omega) (fun c_14 => by exfalso; omega) (fun c_14 => ?_)
    refine k_aload_n eX7_move_17 rfl ?_
    refine GX7_22 eX7_move_18 rfl ?_
    refine k_iload eX7_move_21 rfl ?_
    refine k_aload_n eX7_move_23 rfl ?_
    refine k_iload_n eX7_move_24 rfl ?_
    refine k_iload_n eX7_move_25 rfl ?_
    refine k_iload eX7_move_26 rfl ?_
    refine k_iaddN eX7_move_28 ?_
    refine cV1 (M' := MX7_elementAt) eX7_move_29 mX7_55 wX7_elementAt vX7_elementAt ⟨_, _, _, rfl, rfl, rfl⟩ rfl (pX7_elementAt (S := (sj S 11 (mvA S j i k))) (j := j) (i := (i + k)) (by omega) (by omega)) (by omega) (Nat.le_of_ble_eq_true rfl) ?_
    refine k_lastN (j := k) eX7_move_32 (ar11 _) (by omega) (Nat.le_of_ble_eq_true rfl) (as11 _ _) ?_
    refine k_iincN (g := 1) (a := k) (L2 := [_, _, _, _, _, _, _]) eX7_move_33 (Nat.le_of_ble_eq_true rfl) rfl rfl ?_
    refine k_goto 3 eX7_move_36 (by decide) ?_
    have q := ih (k + 1) (by omega)
    rw [mvA, fillJ, Nat.zero_add] at q
    rw [sj_sj, sj_at]
    exact q
set_option maxHeartbeats 400000 in
theorem lX7_moveb {d : Nat} {Po : Option Value → k_H → Prop} (hdd : 1 ≤ d) {T : k_S} {j i o jj n0 : Nat} (ho : o < 6) (hn0 : n0 ≤ 60) (hjj : jj + n0 ≤ 60) (kx : AW none MX7_move d 0 0 83 [.ref 7, .int (nI j), .int (nI i), .int (nI o), .int (nI jj), .int (nI n0), .int (nI n0)] [] (hp (sj T 10 (fillJ (T.2.2 11) (o * 60 + jj) (T.2.2 10) n0))) Po) : ∀ (n k : Nat), k + n = n0 → AW none MX7_move d 0 0 42 [.ref 7, .int (nI j), .int (nI i), .int (nI o), .int (nI jj), .int (nI n0), .int (nI k)] [] (hp (sj T 10 (fillJ (T.2.2 11) (o * 60 + jj) (T.2.2 10) k))) Po := by
  intro n
  induction n with
  | zero =>
    intro k hk
    rw [show k = n0 by omega]
    refine k_iload eX7_move_42 rfl ?_
    refine k_iload eX7_move_44 rfl ?_
    refine k_icmp_geN 83 eX7_move_46 (by decide) (by omega) (by omega) (fun c_46 => ?_) (fun c_46 => by exfalso; omega)
    exact kx
  | succ n ih =>
    intro k hk
    refine k_iload eX7_move_42 rfl ?_
    refine k_iload eX7_move_44 rfl ?_
    refine k_icmp_geN 83 eX7_move_46 (by decide) (by omega) (by omega) (fun c_46 => by exfalso; omega) (fun c_46 => ?_)
    refine k_iload eX7_move_49 rfl ?_
    refine k_bipush (v := nI 60) eX7_move_51 (by decide) ?_
    refine k_icmp_geN 83 eX7_move_53 (by decide) (by omega) (by omega) (fun c_53 => by exfalso; omega) (fun c_53 => ?_)
    refine k_aload_n eX7_move_56 rfl ?_
    refine k_iload_n eX7_move_57 rfl ?_
    refine k_bipush (v := nI 60) eX7_move_58 (by decide) ?_
    refine k_imulN eX7_move_60 ?_
    refine k_iload eX7_move_61 rfl ?_
    refine k_iaddN eX7_move_63 ?_
    refine k_iload eX7_move_64 rfl ?_
    refine k_iaddN eX7_move_66 ?_
    refine k_aload_n eX7_move_67 rfl ?_
    refine GX7_22 eX7_move_68 rfl ?_
    refine k_iload eX7_move_71 rfl ?_
    refine k_laldN (j := k) eX7_move_73 (ar11 _) (by omega) (Nat.le_of_ble_eq_true rfl) ?_
    refine cV0 (M' := MX7_setRaw) eX7_move_74 mX7_37 wX7_setRaw vX7_setRaw ⟨_, _, _, rfl, rfl, rfl⟩ rfl (pX7_setRaw (S := (sj T 10 (fillJ (T.2.2 11) (o * 60 + jj) (T.2.2 10) k))) (p := (((o * 60) + jj) + k)) (by omega) (((((sj T 10 (fillJ (T.2.2 11) (o * 60 + jj) (T.2.2 10) k))).2.2 11) k))) (by omega) (Nat.le_of_ble_eq_true rfl) ?_
    refine k_iincN (g := 1) (a := k) (L2 := [_, _, _, _, _, _, _]) eX7_move_77 (Nat.le_of_ble_eq_true rfl) rfl rfl ?_
    refine k_goto 42 eX7_move_80 (by decide) ?_
    have q := ih (k + 1) (by omega)
    rw [fillJ] at q
    rw [sj_sj, sj_at]
    exact q
set_option maxHeartbeats 400000 in
theorem pX7_move {S : k_S} {j i o jj n0 : Nat} (hj : j < 6) (ho : o < 6) (hi : i + n0 ≤ 60) (hjj : jj + n0 ≤ 60) : Sp 1 0 0 MX7_move [.ref 7, .int (nI j), .int (nI i), .int (nI o), .int (nI jj), .int (nI n0)] (hp S) (Rt (none) (hp (mvS S j i o jj n0))) := by
  refine Sp_of (by decide +kernel) (Nat.le_of_ble_eq_true rfl) ?_
  show AW none MX7_move 1 0 0 0 [.ref 7, .int (nI j), .int (nI i), .int (nI o), .int (nI jj), .int (nI n0), .null] [] (hp S) _
  refine k_iconst (v := nI 0) eX7_move_0 (by decide) ?_
  refine k_istore (L2 := [_, _, _, _, _, _, _]) eX7_move_1 (Nat.le_of_ble_eq_true rfl) rfl ?_
  refine k_heap (h2 := hp (sj S 11 (mvA S j i 0))) (by rw [mvA, fillJ, sj_self]) ?_
  refine lX7_movea (by decide) hj ho hi hjj ?_ n0 0 (by omega)
  refine k_iconst (v := nI 0) eX7_move_39 (by decide) ?_
  refine k_istore (L2 := [_, _, _, _, _, _, _]) eX7_move_40 (Nat.le_of_ble_eq_true rfl) rfl ?_
  obtain ⟨T, hT⟩ : ∃ T, sj S 11 (mvA S j i n0) = T := ⟨_, rfl⟩
  have h11 : T.2.2 11 = mvA S j i n0 := by rw [← hT]; rfl
  have h10 : T.2.2 10 = S.2.2 10 := by rw [← hT]; rfl
  rw [hT]
  refine k_heap (h2 := hp (sj T 10 (fillJ (T.2.2 11) (o * 60 + jj) (T.2.2 10) 0))) (by rw [fillJ, sj_self]) ?_
  refine lX7_moveb (i := i) (j := j) (by decide) ho (by omega) hjj ?_ n0 0 (by omega)
  refine k_return eX7_move_83 rfl ?_
  exact ⟨rfl, by rw [mvS, hT, h11, h10]⟩
