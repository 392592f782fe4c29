abbrev pIn (v a b : Int32) : Prop := a ≤ v ∧ v ≤ b
abbrev pD (v : Int32) : Prop := nI 0 ≤ v ∧ v ≤ nI 119
abbrev pW (n v : Int32) : Prop := nI 0 ≤ v ∧ v < n
def rd (N : Nat) (f : Nat → Int32) (i : Int32) : Int32 := if pW (nI N) i then f (ix i) else nI 0
theorem rd_in {N j : Nat} {f : Nat → Int32} (h : j < N) (hN : N < 2 ^ 31) : rd N f (nI j) = f j := by
  rw [rd, if_pos ⟨nI_le (Nat.zero_le j) (by omega), nI_lt h hN⟩, ix_nI (by omega)]
def mx (x y : Int32) : Int32 := if x < y then y else x
def mn (x y : Int32) : Int32 := if y < x then y else x
def ab (x : Int32) : Int32 := if 0 ≤ x then x else 0 - x
theorem rt_t {p : Prop} [Decidable p] (h : p) : some (Value.int (nI 1)) = some (Value.int (b2i p)) := by rw [b2i_t h]
theorem rt_f {p : Prop} [Decidable p] (h : ¬ p) : some (Value.int (nI 0)) = some (Value.int (b2i p)) := by rw [b2i_f h]
set_option maxHeartbeats 400000 in
theorem pX11_within {h : k_H} (v a b : Int32) : Sp 0 0 0 MX11_within [.int (v), .int (a), .int (b)] h (Rt (some (.int (b2i (pIn v a b)))) (h)) := by
  refine Sp_of (by decide +kernel) (Nat.le_of_ble_eq_true rfl) ?_
  show AW none MX11_within 0 0 0 0 [.int (v), .int (a), .int (b)] [] h _
  refine k_iload_n eX11_within_0 rfl ?_
  refine k_iload_n eX11_within_1 rfl ?_
  refine k_icmp_lt 14 eX11_within_2 (by decide) (fun c_2 => ?_) (fun c_2 => ?_)
  · refine k_iconst (v := nI 0) eX11_within_14 (by decide) ?_
    refine k_ireturn eX11_within_15 rfl rfl ?_
    exact ⟨rt_f (fun q => by first | exact absurd q.1 (Int32.not_le.mpr (by assumption)) | exact absurd q.2 (Int32.not_le.mpr (by assumption))), rfl⟩
  refine k_iload_n eX11_within_5 rfl ?_
  refine k_iload_n eX11_within_6 rfl ?_
  refine k_icmp_gt 14 eX11_within_7 (by decide) (fun c_7 => ?_) (fun c_7 => ?_)
  · refine k_iconst (v := nI 0) eX11_within_14 (by decide) ?_
    refine k_ireturn eX11_within_15 rfl rfl ?_
    exact ⟨rt_f (fun q => by first | exact absurd q.1 (Int32.not_le.mpr (by assumption)) | exact absurd q.2 (Int32.not_le.mpr (by assumption))), rfl⟩
  refine k_iconst (v := nI 1) eX11_within_10 (by decide) ?_
  refine k_goto 15 eX11_within_11 (by decide) ?_
  refine k_ireturn eX11_within_15 rfl rfl ?_
  exact ⟨rt_t ⟨Int32.not_lt.mp c_2, Int32.not_lt.mp c_7⟩, rfl⟩
set_option maxHeartbeats 400000 in
theorem pX11_isDay {h : k_H} (v : Int32) : Sp 1 0 0 MX11_isDay [.int (v)] h (Rt (some (.int (b2i (pD v)))) (h)) := by
  refine Sp_of (by decide +kernel) (Nat.le_of_ble_eq_true rfl) ?_
  show AW none MX11_isDay 1 0 0 0 [.int (v)] [] h _
  refine k_iload_n eX11_isDay_0 rfl ?_
  refine k_iconst (v := nI 0) eX11_isDay_1 (by decide) ?_
  refine k_bipush (v := nI 119) eX11_isDay_2 (by decide) ?_
  refine cS1 (M' := MX11_within) eX11_isDay_4 mX11_114 wX11_within sX11_within rfl (pX11_within (v) (nI 0) (nI 119)) (by decide) (Nat.le_of_ble_eq_true rfl) ?_
  refine k_ireturn eX11_isDay_7 rfl (k_nb _) ?_
  exact ⟨rfl, rfl⟩
theorem womax : Cond.static Lib.Math.max.name ∈ k_tG ∧ Cond.initialized "java/lang/Math" ∈ k_tG ∧ Cond.code Lib.Math.max.name Lib.Math.max.code 2 (some .int) ∈ k_tG := ⟨k_memG 647 (by decide +kernel), k_memG 35 (by decide +kernel), k_memG 648 (by decide +kernel)⟩
theorem k_mmax {X : k_X} {M : k_M} {d bc bs pc n ix : Nat} {L st : List Value} {h : k_H} {Po : Option Value → k_H → Prop} {x y : Int32} (hd : k_dc M pc (.invokestatic ix) 3 n) (hl : Cond.methodLink M.1.cls ix yJ9_max_7cf53 ∈ k_tG) (hdd : 1 ≤ d) (hct : (st.map fun v => v.category).sum ≤ 8) (k : AW X M d bc bs n L (.int (mx x y) :: st) h Po) : AW X M d bc bs pc L (.int y :: .int x :: st) h Po := by
  obtain ⟨hd, rfl⟩ := hd
  intro p l e R s m args below meth c Z cI cJ D H locs cells slots ls Q C Y hL h1 h2 E
  have hts := C.2.2.2.2.2.1
  have hr := C.2.2.2.2.2.2.2.2.2.2
  have e1 := k_catsum Z st
  exact va_mmax C.1 C.2.1 (C.2.2.1.trans hL.2.1.symm) C.2.2.2.1 (hts _ hl) (hts _ womax.1) (hts _ womax.2.1) (hts _ womax.2.2) (by omega) (by rw [e1]; omega) (by omega) (by omega) hd (k p l e R s m args below meth c Z cI cJ D H locs cells slots ls Q C Y hL h1 h2 E)
theorem womin : Cond.static Lib.Math.min.name ∈ k_tG ∧ Cond.initialized "java/lang/Math" ∈ k_tG ∧ Cond.code Lib.Math.min.name Lib.Math.min.code 2 (some .int) ∈ k_tG := ⟨k_memG 665 (by decide +kernel), k_memG 35 (by decide +kernel), k_memG 666 (by decide +kernel)⟩
theorem k_mmin {X : k_X} {M : k_M} {d bc bs pc n ix : Nat} {L st : List Value} {h : k_H} {Po : Option Value → k_H → Prop} {x y : Int32} (hd : k_dc M pc (.invokestatic ix) 3 n) (hl : Cond.methodLink M.1.cls ix yJ9_min_7cf53 ∈ k_tG) (hdd : 1 ≤ d) (hct : (st.map fun v => v.category).sum ≤ 8) (k : AW X M d bc bs n L (.int (mn x y) :: st) h Po) : AW X M d bc bs pc L (.int y :: .int x :: st) h Po := by
  obtain ⟨hd, rfl⟩ := hd
  intro p l e R s m args below meth c Z cI cJ D H locs cells slots ls Q C Y hL h1 h2 E
  have hts := C.2.2.2.2.2.1
  have hr := C.2.2.2.2.2.2.2.2.2.2
  have e1 := k_catsum Z st
  exact va_mmin C.1 C.2.1 (C.2.2.1.trans hL.2.1.symm) C.2.2.2.1 (hts _ hl) (hts _ womin.1) (hts _ womin.2.1) (hts _ womin.2.2) (by omega) (by rw [e1]; omega) (by omega) (by omega) hd (k p l e R s m args below meth c Z cI cJ D H locs cells slots ls Q C Y hL h1 h2 E)
set_option maxHeartbeats 400000 in
theorem pX11_read {h : k_H} {a N : Nat} {f : Nat → Int32} {i : Int32} (ha : h[a]? = some (.inl (N, .inl f))) (hN : N < 2 ^ 31) : Sp 0 0 0 MX11_read [.ref a, .int (i)] h (Rt (some (.int (rd N f i))) (h)) := by
  refine Sp_of (by decide +kernel) (Nat.le_of_ble_eq_true rfl) ?_
  show AW none MX11_read 0 0 0 0 [.ref a, .int (i)] [] h _
  refine k_iload_n eX11_read_0 rfl ?_
  refine k_if_lt 16 eX11_read_1 (by decide) (fun c_1 => ?_) (fun c_1 => ?_)
  · refine k_iconst (v := nI 0) eX11_read_16 (by decide) ?_
    refine k_ireturn eX11_read_17 rfl rfl ?_
    exact ⟨by rw [rd, if_neg (fun q => by first | exact absurd c_1 (Int32.not_lt.mpr q.1) | exact absurd q.2 (Int32.not_lt.mpr c_7))], rfl⟩
  refine k_iload_n eX11_read_4 rfl ?_
  refine k_aload_n eX11_read_5 rfl ?_
  refine k_alen eX11_read_6 ha ?_
  refine k_topi (nI N) rfl ?_
  refine k_icmp_ge 16 eX11_read_7 (by decide) (fun c_7 => ?_) (fun c_7 => ?_)
  · refine k_iconst (v := nI 0) eX11_read_16 (by decide) ?_
    refine k_ireturn eX11_read_17 rfl rfl ?_
    exact ⟨by rw [rd, if_neg (fun q => by first | exact absurd c_1 (Int32.not_lt.mpr q.1) | exact absurd q.2 (Int32.not_lt.mpr c_7))], rfl⟩
  refine k_aload_n eX11_read_10 rfl ?_
  refine k_iload_n eX11_read_11 rfl ?_
  refine k_iald eX11_read_12 ha (vp_in_iff.mpr ⟨Int32.le_iff_toInt_le.mp (Int32.not_lt.mp c_1), by have e := Int32.lt_iff_toInt_lt.mp (Int32.not_le.mp c_7); rw [nI_toInt hN] at e; exact e⟩) ?_
  refine k_goto 17 eX11_read_13 (by decide) ?_
  refine k_ireturn eX11_read_17 rfl rfl ?_
  exact ⟨by rw [rd, if_pos ⟨Int32.not_lt.mp c_1, Int32.not_le.mp c_7⟩]; rfl, rfl⟩
theorem pX11_readN {h : k_H} {a N j : Nat} {f : Nat → Int32} (ha : h[a]? = some (.inl (N, .inl f))) (hj : j < N) (hN : N < 2 ^ 31) : Sp 0 0 0 MX11_read [.ref a, .int (nI j)] h (Rt (some (.int (f j))) h) := by
  have q := pX11_read (i := nI j) ha hN
  rw [rd_in hj hN] at q
  exact q
theorem pX11_writeN {h h2 : k_H} {a N j : Nat} {f : Nat → Int32} {v : Int32} (ha : h[a]? = some (.inl (N, .inl f))) (hj : j < N) (hN : N < 2 ^ 31) (he : h.set a (.inl (N, .inl (va_up f j v))) = h2) : Sp 0 0 0 MX11_write [.ref a, .int (nI j), .int v] h (Rt none h2) := by
  refine Sp_of (by decide +kernel) (Nat.le_of_ble_eq_true rfl) ?_
  show AW none MX11_write 0 0 0 0 [.ref a, .int (nI j), .int v] [] h _
  refine k_iload_n eX11_write_0 rfl ?_
  refine k_if_ltN 14 eX11_write_1 (by decide) (by omega) ?_
  refine k_iload_n eX11_write_4 rfl ?_
  refine k_aload_n eX11_write_5 rfl ?_
  refine k_alen eX11_write_6 ha ?_
  refine k_icmp_geN 14 eX11_write_7 (by decide) (by omega) hN (fun c => absurd hj (by omega)) (fun c => ?_)
  refine k_aload_n eX11_write_10 rfl ?_
  refine k_iload_n eX11_write_11 rfl ?_
  refine k_iload_n eX11_write_12 rfl ?_
  refine k_iastN eX11_write_13 ha hj hN he ?_
  refine k_return eX11_write_14 rfl ?_
  exact ⟨rfl, rfl⟩
/-- outside nothing is written -/
theorem pX11_writeO {h : k_H} {a N : Nat} {i v : Int32} {f : Nat → Int32} (ha : h[a]? = some (.inl (N, .inl f))) (hi : ¬ pW (nI N) i) : Sp 0 0 0 MX11_write [.ref a, .int i, .int v] h (Rt none h) := by
  refine Sp_of (by decide +kernel) (Nat.le_of_ble_eq_true rfl) ?_
  show AW none MX11_write 0 0 0 0 [.ref a, .int i, .int v] [] h _
  refine k_iload_n eX11_write_0 rfl ?_
  refine k_if_lt 14 eX11_write_1 (by decide) (fun c => ?_) (fun c => ?_)
  · refine k_return eX11_write_14 rfl ?_
    exact ⟨rfl, rfl⟩
  refine k_iload_n eX11_write_4 rfl ?_
  refine k_aload_n eX11_write_5 rfl ?_
  refine k_alen eX11_write_6 ha ?_
  refine k_icmp_ge 14 eX11_write_7 (by decide) (fun c => ?_) (fun c2 => absurd ⟨Int32.not_lt.mp c, Int32.not_le.mp c2⟩ hi)
  refine k_return eX11_write_14 rfl ?_
  exact ⟨rfl, rfl⟩
set_option maxHeartbeats 400000 in
theorem pX10_has {S : k_S} (v : Int32) : Sp 0 0 0 MX10_has [.ref 16, .int (v)] (hp S) (Rt (some (.int (b2i (pW (S.1 803) v)))) (hp S)) := by
  refine Sp_of (by decide +kernel) (Nat.le_of_ble_eq_true rfl) ?_
  show AW none MX10_has 0 0 0 0 [.ref 16, .int (v)] [] (hp S) _
  refine k_iload_n eX10_has_0 rfl ?_
  refine k_if_lt 16 eX10_has_1 (by decide) (fun c_1 => ?_) (fun c_1 => ?_)
  · refine k_iconst (v := nI 0) eX10_has_16 (by decide) ?_
    refine k_ireturn eX10_has_17 rfl rfl ?_
    exact ⟨rt_f (fun q => by first | exact absurd q.1 (Int32.not_le.mpr (by assumption)) | exact absurd q.2 (Int32.not_lt.mpr (by assumption))), rfl⟩
  refine k_iload_n eX10_has_4 rfl ?_
  refine k_aload_n eX10_has_5 rfl ?_
  refine GX10_21 eX10_has_6 rfl ?_
  refine k_icmp_ge 16 eX10_has_9 (by decide) (fun c_9 => ?_) (fun c_9 => ?_)
  · refine k_iconst (v := nI 0) eX10_has_16 (by decide) ?_
    refine k_ireturn eX10_has_17 rfl rfl ?_
    exact ⟨rt_f (fun q => by first | exact absurd q.1 (Int32.not_le.mpr (by assumption)) | exact absurd q.2 (Int32.not_lt.mpr (by assumption))), rfl⟩
  refine k_iconst (v := nI 1) eX10_has_12 (by decide) ?_
  refine k_goto 17 eX10_has_13 (by decide) ?_
  refine k_ireturn eX10_has_17 rfl rfl ?_
  exact ⟨rt_t ⟨Int32.not_lt.mp c_1, Int32.not_le.mp c_9⟩, rfl⟩
