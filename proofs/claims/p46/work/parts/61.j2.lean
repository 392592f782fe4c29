section KO
variable {X Y0 : k_X} {M M' : k_M} {d d' bc bs bc' bs' bc2 bs2 pc n na ix a ci : Nat} {L st As rest fs : List Value} {h : k_H} {Po Po' : Option Value → k_H → Prop}
theorem k_callO {M0 : k_M} (hd : k_dc M pc (.invokevirtual ix) 3 n) (hl : Cond.methodLink M.1.cls ix M0.1 ∈ k_tG) (hw : k_mw M' na) (hw2 : Cond.sameMethod M0.1.cls M0.1.cls M0.1.name M0.1.desc ∈ k_tG ∧ Cond.instanceMethod M0.1 ∈ k_tG ∧ Cond.selects RJ4 M0.1 M'.1 ∈ k_tG ∧ Cond.instanceMethod M'.1 ∈ k_tG) (hw0 : k_mw M0 na) (hrc : h[a]? = some (.inr (1, fs))) (hp : k_popn (na + 1) st [] = some (.ref a :: As, rest)) (hsp : SpX none d' bc' bs' M' (.ref a :: As) h Po') (hdd : d' < d) (hb : bc = bc' + bc2 ∧ bs = bs' + bs2) (hct : (rest.map fun v => v.category).sum ≤ 8) (k : ∀ (r : Option Value) (h' : k_H), Po' r h' → AW X M d bc2 bs2 n L (r.toList ++ rest) h' Po) : AW X M d bc bs pc L st h Po := by
  obtain ⟨hd, rfl⟩ := hd
  intro p l e R s m args below meth c Z cI cJ D H locs cells slots ls Q C Y hL h1 h2 E
  obtain ⟨rfl, rfl⟩ := hb
  obtain ⟨hstk, hAl⟩ := k_popn_nil hp
  have hM := hsp l Z cI cJ D (by omega)
  have hts := C.2.2.2.2.2.1
  have hK := C.2.2.2.2.2.2.2.1
  have hr := C.2.2.2.2.2.2.2.2.2.2
  have hG := k_wG_in (M' := M') hw.1.1
  have hd9 : d' + 1 ≤ R.frames ∧ 8 + (M'.2.2.1 + 11) + 37 * d' ≤ R.locals := by have := hw.2.2; omega
  have hcs : 2 * (F0 m pc ls (st.map (kb Z))).monitorRoom + ((rest.map (kb Z)).map fun v => v.category).sum ≤ 8 := by rw [k_catsum]; show 2 * 0 + _ ≤ 8; omega
  have hPre : ∀ U : State, U.heap = H → s.WarmedH U.vm → k_In Z cI cJ D none h U := fun U hU hW => ⟨by rw [hU]; exact Y.1, by rw [hU]; exact Y.2.1, va_K.moved hW.alike hK, by rw [hU]; exact ((C.2.2.2.2.2.2.2.2.1.kept Y.2.2.2.1).warm hW).sub (Or.inl rfl), fun w hw => k_tN_warm hw hW (C.2.2.2.2.2.2.1 w hw)⟩
  have hrecv : ∃ cellB : Cell, H[Z.1 + a]? = some cellB ∧ cellB.vm.isStatics = false ∧ s.vm.findClass RJ4 = some cellB.cls := va_recv (q := (RJ4, TJ4, 4)) hK Y.1 rfl (k_ws_get hrc)
  have hGU : GoodIn k_tG (va_wsO M.1.cls ix RJ4 M0.1.cls M0.1 M'.1 (k_wo M')) := by
    intro w hw9
    have hq : w ∈ k_tG := by
      unfold va_wsO at hw9
      rcases List.mem_append.mp hw9 with z | z
      · simp only [List.mem_cons, List.not_mem_nil, or_false] at z
        rcases z with rfl | rfl | rfl | rfl | rfl | rfl
        · exact hl
        · exact hw2.1
        · exact hw2.2.1
        · exact hw2.2.2.1
        · exact hw2.2.2.2
        · exact hw.1.2
      · exact (hG w z).1
    exact ⟨hq, good_of_word (List.mem_filter.mp hq).2⟩
  have hrun := va_runU (l := l) (e := e) (R := R) (below := below) (meth := meth) (H := H) (locs := locs) (cells := cells) (slots := slots) (g := F0 m pc ls (st.map (kb Z))) (As := As.map (kb Z)) (rest := rest.map (kb Z)) ⟨C.1, C.2.1, C.2.2.1, C.2.2.2.1, hts⟩ hM (va_cwO (owner := M0.1.cls) na hts hGU rfl rfl rfl hw0.1.1 hw0.2.1 hd9) (⟨k_In.blind, hrecv, fun U hU hW => ⟨rfl, hPre U hU hW⟩⟩) rfl (by rw [List.length_map]; exact Nat.succ.inj hAl) hL.2.1 (by show st.map (kb Z) = _; rw [hstk, List.map_append, List.map_reverse, List.map_cons, List.reverse_cons, List.append_assoc]; rfl) hcs hd (by constructor <;> omega)
  intro T hT XX
  obtain ⟨v, st₀, t, T', L9, e0, X', hLf, e1, e2, ⟨⟨r, h', hv, hpo, hP9, hz9⟩, hz, hk9⟩, stp⟩ := hrun T hT XX
  cases hv
  rw [e0] at hz hk9
  have hS9 : va_S (k_A Z) s.heap T'.heap (locs ++ L9) := ⟨Nat.le_trans Y.2.2.1 (by rw [e1]; exact hz), fun q g1 g2 => by rw [e1, hk9 q (Nat.lt_of_lt_of_le g1 Y.2.2.1) g2]; exact Y.2.2.2.1 q g1 g2, fun q hq => (List.mem_append.mp hq).elim (Y.2.2.2.2 q) (hLf q)⟩
  obtain ⟨t2, a1, b1⟩ := k r h' hpo p l e R s m args below meth c Z cI cJ D T'.heap (locs ++ L9) (cells + bc') (slots + bs') ls Q C ⟨by rw [e1]; exact hP9, by rw [e1]; exact hz9, hS9⟩ hL (by omega) (by omega) E T' rfl X'
  refine ⟨t2, stp t2 ?_, b1⟩
  have e5 : (r.map (kb Z)).toList ++ rest.map (kb Z) = (r.toList ++ rest).map (kb Z) := by cases r <;> simp
  rw [e5]
  exact a1
theorem AW.room (h1 : bc2 ≤ bc) (h2 : bs2 ≤ bs) (k : AW X M d bc2 bs2 pc L st h Po) : AW X M d bc bs pc L st h Po := by
  intro p l e R s m args below meth c Z cI cJ D H locs cells slots ls Q C Y hL g1 g2 E
  exact k p l e R s m args below meth c Z cI cJ D H locs cells slots ls Q C Y hL (by omega) (by omega) E
theorem k_topr {v : Value} (w : Value) (e : v = w) (k : AW X M d bc bs pc L (w :: st) h Po) : AW X M d bc bs pc L (v :: st) h Po := e ▸ k
end KO
/-- a builder of n bytes, with room of 16 or of 34 -/
def SBn (b a n : Nat) (h : k_H) : Prop := ∃ q, (q = 16 ∨ q = 34) ∧ n ≤ q ∧ SBh b a n q h
theorem lenJ_le : ∀ i, i < 4 → lenJ.getD i 0 ≤ 5
  | 0, _ => by decide
  | 1, _ => by decide
  | 2, _ => by decide
  | 3, _ => by decide
  | i + 4, h => absurd h (by omega)
set_option maxHeartbeats 1000000 in
theorem pJ0_getBytes {h : k_H} {p n q i : Nat} {f : Nat → Int32} (hi : i < 4) (hp9 : h[p]? = some (.inl (q, .inr (.inr f)))) (hf : sb_Fit f) (hq : n + lenJ.getD i 0 ≤ q) (hq2 : q ≤ 34) : Sp 1 0 0 MJ0_getBytes_840e7 [.retAddr (10 + i), .ref p, .int (nI n), .int (nI 0)] h (fun r h1 => r = none ∧ ∃ g : Nat → Int32, sb_Fit g ∧ h1 = h.set p (.inl (q, .inr (.inr g)))) := by
  have hl5 := lenJ_le i hi
  refine Sp_of (by decide +kernel) (Nat.le_of_ble_eq_true rfl) ?_
  show AW none MJ0_getBytes_840e7 1 0 0 0 [.retAddr (10 + i), .ref p, .int (nI n), .int (nI 0)] [] h _
  refine k_aloadT eJ0_getBytes_840e7_0 rfl ?_
  refine k_callK (M' := MJ0_coder_7d493) (bc' := 0) (bs' := 0) (bc2 := 0) (bs2 := 0) eJ0_getBytes_840e7_1 mJ0_335 wJ0_coder_7d493 vJ0_coder_7d493 ⟨hi, rfl⟩ rfl (pJ0_coderK hi) (by decide) ⟨rfl, rfl⟩ (Nat.le_of_ble_eq_true rfl) ?_
  rintro r h1 ⟨rfl, e1⟩
  obtain rfl := e1.symm
  refine k_iload_n eJ0_getBytes_840e7_4 rfl ?_
  refine k_icmp_neN 28 eJ0_getBytes_840e7_5 (by decide) (by omega) (by omega) (fun c_5 => by exfalso; omega) (fun c_5 => ?_)
  refine k_aloadT eJ0_getBytes_840e7_8 rfl ?_
  refine k_getKv (i := i) eJ0_getBytes_840e7_9 hi fJ0_9.2 ?_
  refine k_iconst (v := nI 0) eJ0_getBytes_840e7_12 (by decide) ?_
  refine k_aload_n eJ0_getBytes_840e7_13 rfl ?_
  refine k_iload_n eJ0_getBytes_840e7_14 rfl ?_
  refine k_iload_n eJ0_getBytes_840e7_15 rfl ?_
  refine k_ishl eJ0_getBytes_840e7_16 ?_
  refine k_topi (nI n) (shl0 _) ?_
  refine k_aloadT eJ0_getBytes_840e7_17 rfl ?_
  refine k_getKv (i := i) eJ0_getBytes_840e7_18 hi fJ0_9.2 ?_
  refine k_alenK (i := i) eJ0_getBytes_840e7_21 hi ?_
  refine k_topi (nI (lenJ.getD i 0)) rfl ?_
  refine k_cpyK (i := i) eJ0_getBytes_840e7_22 mJ0_212 w_cpy (by decide) (Nat.le_of_ble_eq_true rfl) hi hp9 (nI_pos (by omega)) (nI_pos (by omega)) (nI_pos (by omega)) (by rw [nI_clamp (by omega), nI_clamp (by omega)]; omega) (by rw [nI_clamp (by omega), nI_clamp (by omega)]; omega) (fun g hg => ?_)
  refine k_goto 43 eJ0_getBytes_840e7_25 (by decide) ?_
  refine k_return eJ0_getBytes_840e7_43 rfl ?_
  exact ⟨rfl, g, hg hf, rfl⟩
set_option maxHeartbeats 1000000 in
theorem pJ5_inflIf {h : k_H} {a p n : Nat} (ha : h[a]? = some (.inr (1, [.ref p, .int 0, .int 0, .int (nI n)]))) {i : Nat} (hi : i < 4) : Sp 1 0 0 MJ5_inflateIfNeededFor_a7421 [.ref a, .retAddr (10 + i)] h (Rt none h) := by
  refine Sp_of (by decide +kernel) (Nat.le_of_ble_eq_true rfl) ?_
  show AW none MJ5_inflateIfNeededFor_a7421 1 0 0 0 [.ref a, .retAddr (10 + i)] [] h _
  refine k_getsC eJ5_inflateIfNeededFor_a7421_0 fJ5_18 ?_
  refine k_topi (nI 1) rfl ?_
  refine k_if_eqN 21 eJ5_inflateIfNeededFor_a7421_3 (by decide) (by omega) (fun c_3 => by exfalso; omega) (fun c_3 => ?_)
  refine k_aload_n eJ5_inflateIfNeededFor_a7421_6 rfl ?_
  refine k_get eJ5_inflateIfNeededFor_a7421_7 clJ4 (j := 1) fJ5_22 ha rfl ?_
  refine k_topi (nI 0) rfl ?_
  refine k_aloadT eJ5_inflateIfNeededFor_a7421_10 rfl ?_
  refine k_callK (M' := MJ0_coder_7d493) (bc' := 0) (bs' := 0) (bc2 := 0) (bs2 := 0) eJ5_inflateIfNeededFor_a7421_11 mJ5_40 wJ0_coder_7d493 vJ0_coder_7d493 ⟨hi, rfl⟩ rfl (pJ0_coderK hi) (by decide) ⟨rfl, rfl⟩ (Nat.le_of_ble_eq_true rfl) ?_
  rintro r h1 ⟨rfl, e1⟩
  obtain rfl := e1.symm
  refine k_icmp_eqN 21 eJ5_inflateIfNeededFor_a7421_14 (by decide) (by omega) (by omega) (fun c_14 => ?_) (fun c_14 => by exfalso; omega)
  refine k_return eJ5_inflateIfNeededFor_a7421_21 rfl ?_
  exact ⟨rfl, rfl⟩
set_option maxHeartbeats 1000000 in
theorem pJ5_putStringAt {h : k_H} {a p n : Nat} (ha : h[a]? = some (.inr (1, [.ref p, .int 0, .int 0, .int (nI n)]))) {q i : Nat} {f : Nat → Int32} (hi : i < 4) (hp9 : h[p]? = some (.inl (q, .inr (.inr f)))) (hf : sb_Fit f) (hq : n + lenJ.getD i 0 ≤ q) (hq2 : q ≤ 34) : Sp 2 0 0 MJ5_putStringAt_47b60 [.ref a, .int (nI n), .retAddr (10 + i)] h (fun r h1 => r = none ∧ ∃ g : Nat → Int32, sb_Fit g ∧ h1 = h.set p (.inl (q, .inr (.inr g)))) := by
  refine Sp_of (by decide +kernel) (Nat.le_of_ble_eq_true rfl) ?_
  show AW none MJ5_putStringAt_47b60 2 0 0 0 [.ref a, .int (nI n), .retAddr (10 + i)] [] h _
  refine k_aload_n eJ5_putStringAt_47b60_0 rfl ?_
  refine k_aloadT eJ5_putStringAt_47b60_1 rfl ?_
  refine k_callU (M' := MJ5_inflateIfNeededFor_a7421) (bc' := 0) (bs' := 0) (bc2 := 0) (bs2 := 0) eJ5_putStringAt_47b60_2 mJ5_397 wJ5_inflateIfNeededFor_a7421 uJ5_inflateIfNeededFor_a7421 ha rfl (pJ5_inflIf ha hi) (by decide) ⟨rfl, rfl⟩ (Nat.le_of_ble_eq_true rfl) ?_
  rintro r h1 ⟨rfl, e1⟩
  obtain rfl := e1.symm
  refine k_aloadT eJ5_putStringAt_47b60_5 rfl ?_
  refine k_aload_n eJ5_putStringAt_47b60_6 rfl ?_
  refine k_get eJ5_putStringAt_47b60_7 clJ4 (j := 0) fJ5_15 ha rfl ?_
  refine k_iload_n eJ5_putStringAt_47b60_10 rfl ?_
  refine k_aload_n eJ5_putStringAt_47b60_11 rfl ?_
  refine k_get eJ5_putStringAt_47b60_12 clJ4 (j := 1) fJ5_22 ha rfl ?_
  refine k_topi (nI 0) rfl ?_
  refine k_callK (M' := MJ0_getBytes_840e7) (bc' := 0) (bs' := 0) (bc2 := 0) (bs2 := 0) eJ5_putStringAt_47b60_15 mJ5_399 wJ0_getBytes_840e7 vJ0_getBytes_840e7 ⟨hi, rfl⟩ rfl (pJ0_getBytes hi hp9 hf hq hq2) (by decide) ⟨rfl, rfl⟩ (Nat.le_of_ble_eq_true rfl) ?_
  rintro r h1 ⟨rfl, g, hg, rfl⟩
  refine k_return eJ5_putStringAt_47b60_18 rfl ?_
  exact ⟨rfl, g, hg, rfl⟩
set_option maxHeartbeats 1000000 in
theorem pJ5_appendS {h : k_H} {b a n i : Nat} (hi : i < 4) (hsb : SBn b a n h) (hbh : b ≤ h.length) (hn : n + lenJ.getD i 0 ≤ 34) : Sp 5 1 34 MJ5_append_cf1ce [.ref a, .retAddr (10 + i)] h (fun r h1 => r = some (.ref a) ∧ Kp b h h1 ∧ SBn b a (n + lenJ.getD i 0) h1) := by
  have hsb9 := hsb
  obtain ⟨q, hq0, hnq, hs⟩ := hsb9
  have hs9 := hs
  obtain ⟨hba, p, f, hbp, ha, hp9, hf⟩ := hs9
  refine Sp_of (by decide +kernel) (Nat.le_of_ble_eq_true rfl) ?_
  show AW none MJ5_append_cf1ce 5 1 34 0 [.ref a, .retAddr (10 + i), .null] [] h _
  refine k_aloadT eJ5_append_cf1ce_0 rfl ?_
  refine k_ifnonnullT 9 eJ5_append_cf1ce_1 (by decide) ?_
  refine k_aloadT eJ5_append_cf1ce_9 rfl ?_
  refine k_callK (M' := MJ0_length_8abf5) (bc' := 0) (bs' := 0) (bc2 := 1) (bs2 := 34) eJ5_append_cf1ce_10 mJ5_32 wJ0_length_8abf5 vJ0_length_8abf5 ⟨hi, rfl⟩ rfl (pJ0_lengthK hi) (by decide) ⟨rfl, rfl⟩ (Nat.le_of_ble_eq_true rfl) ?_
  rintro r h1 ⟨rfl, e1⟩
  obtain rfl := e1.symm
  refine k_istore_n (L2 := [_, _, _]) eJ5_append_cf1ce_13 (Nat.le_of_ble_eq_true rfl) rfl ?_
  refine k_aload_n eJ5_append_cf1ce_14 rfl ?_
  refine k_aload_n eJ5_append_cf1ce_15 rfl ?_
  refine k_get eJ5_append_cf1ce_16 clJ4 (j := 3) fJ5_79 ha rfl ?_
  refine k_iload_n eJ5_append_cf1ce_19 rfl ?_
  refine k_iaddN eJ5_append_cf1ce_20 ?_
  obtain ⟨d1, hd1, c1, s1, hc1, hs1, hE⟩ := pJ5_ensure (w := n + lenJ.getD i 0) hs hbh hq0 (by omega)
  refine k_callU (M' := MJ5_ensureCapacityInternal_d00df) (d' := d1) (bc' := c1) (bs' := s1) (bc2 := 1 - c1) (bs2 := 34 - s1) eJ5_append_cf1ce_21 mJ5_100 wJ5_ensureCapacityInternal_d00df uJ5_ensureCapacityInternal_d00df ha rfl hE (by omega) ⟨by omega, by omega⟩ (Nat.le_of_ble_eq_true rfl) ?_
  rintro r h1 ⟨rfl, hk1, q1, hq1, hw1, hs1⟩
  refine AW.room (bc2 := 0) (bs2 := 0) (by omega) (by omega) ?_
  obtain ⟨hba1, p1, f1, hbp1, ha1, hp1, hf1⟩ := hs1
  refine k_aload_n eJ5_append_cf1ce_24 rfl ?_
  refine k_aload_n eJ5_append_cf1ce_25 rfl ?_
  refine k_get eJ5_append_cf1ce_26 clJ4 (j := 3) fJ5_79 ha1 rfl ?_
  refine k_aloadT eJ5_append_cf1ce_29 rfl ?_
  refine k_callU (M' := MJ5_putStringAt_47b60) (bc' := 0) (bs' := 0) (bc2 := 0) (bs2 := 0) eJ5_append_cf1ce_30 mJ5_208 wJ5_putStringAt_47b60 uJ5_putStringAt_47b60 ha1 rfl (pJ5_putStringAt ha1 hi hp1 hf1 hw1 (by omega)) (by decide) ⟨rfl, rfl⟩ (Nat.le_of_ble_eq_true rfl) ?_
  rintro r h2 ⟨rfl, g, hg, rfl⟩
  have ha2 : (h1.set p1 (.inl (q1, .inr (.inr g))))[a]? = some (.inr (1, [.ref p1, .int 0, .int 0, .int (nI n)])) := gs_ne ha1 (Ne.symm (ap_ne ha1 hp1))
  have hp2 : (h1.set p1 (.inl (q1, .inr (.inr g))))[p1]? = some (.inl (q1, .inr (.inr g))) := gs_eq (g_lt hp1)
  refine k_aload_n eJ5_append_cf1ce_33 rfl ?_
  refine k_dup eJ5_append_cf1ce_34 rfl ?_
  refine k_get eJ5_append_cf1ce_35 clJ4 (j := 3) fJ5_79 ha2 rfl ?_
  refine k_iload_n eJ5_append_cf1ce_38 rfl ?_
  refine k_iaddN eJ5_append_cf1ce_39 ?_
  refine k_put (h2' := _) eJ5_append_cf1ce_40 clJ4 (j := 3) fJ5_79 rfl ha2 (Nat.le_of_ble_eq_true rfl) (fun _ => ⟨rfl, rfl⟩) rfl ?_
  refine k_aload_n eJ5_append_cf1ce_43 rfl ?_
  refine k_areturn eJ5_append_cf1ce_44 rfl (Or.inl ⟨_, rfl⟩) ?_
  exact ⟨rfl, (hk1.set hbp1).set hba1, q1, hq1, hw1, hba1, p1, g, hbp1, gs_eq (g_lt ha2), gs_ne hp2 (ap_ne ha1 hp1), hg⟩
set_option maxHeartbeats 1000000 in
theorem pJ4_appendS {h : k_H} {b a n i : Nat} (hi : i < 4) (hsb : SBn b a n h) (hbh : b ≤ h.length) (hn : n + lenJ.getD i 0 ≤ 34) : Sp 6 1 34 MJ4_append_15ec4 [.ref a, .retAddr (10 + i)] h (fun r h1 => r = some (.ref a) ∧ Kp b h h1 ∧ SBn b a (n + lenJ.getD i 0) h1) := by
  have hsb9 := hsb
  obtain ⟨q, hq0, hnq, hs⟩ := hsb9
  have hs9 := hs
  obtain ⟨hba, p, f, hbp, ha, hp9, hf⟩ := hs9
  refine Sp_of (by decide +kernel) (Nat.le_of_ble_eq_true rfl) ?_
  show AW none MJ4_append_15ec4 6 1 34 0 [.ref a, .retAddr (10 + i)] [] h _
  refine k_aload_n eJ4_append_15ec4_0 rfl ?_
  refine k_aloadT eJ4_append_15ec4_1 rfl ?_
  refine k_callZ (M' := MJ5_append_cf1ce) (bc' := 1) (bs' := 34) (bc2 := 0) (bs2 := 0) eJ4_append_15ec4_2 mJ4_29 wJ5_append_cf1ce zJ5_append_cf1ce rfl (by decide +kernel) ha rfl (pJ5_appendS hi hsb hbh hn) (by decide) ⟨rfl, rfl⟩ (Nat.le_of_ble_eq_true rfl) ?_
  rintro r h1 ⟨rfl, hk1, hs1⟩
  refine k_pop eJ4_append_15ec4_5 rfl ?_
  refine k_aload_n eJ4_append_15ec4_6 rfl ?_
  refine k_areturn eJ4_append_15ec4_7 rfl (Or.inl ⟨_, rfl⟩) ?_
  exact ⟨rfl, hk1, hs1⟩
/-- how many digits -/
def dgs (k : Nat) : Nat := if k < 10 then 1 else 2
theorem dg_a : ∀ k, k < 100 → (-(nI k) ≤ (-10) ↔ 10 ≤ k) := by decide +kernel
theorem dg_b : ∀ k, k < 100 → ¬ -(nI k) ≤ (nI 10 * (-10)) := by decide +kernel
theorem dg_c : ∀ k, k < 100 → (-100) < -(nI k) := by decide +kernel
theorem dg_d : ∀ k, k < 100 → ((-9) ≤ -(nI k) ↔ k < 10) := by decide +kernel
theorem neg2 (x : Int32) : -(-x) = x := Int32.neg_neg
theorem dec1 {a : Nat} (h : 0 < a) : nI a + Int32.ofInt (-1) = nI (a - 1) := by
  have e := pk_sub (a := a) (b := 1) h
  rw [← e, Int32.sub_eq_add_neg, show -nI 1 = Int32.ofInt (-1) from by decide]
set_option maxHeartbeats 1000000 in
theorem pJ6_size1 {h : k_H} {k : Nat} (hk : k < 100) (hk1 : k < 10) : Sp 0 0 0 MJ6_stringSize_0f7a4 [.int (nI k)] h (Rt (some (.int (nI 1))) h) := by
  refine Sp_of (by decide +kernel) (Nat.le_of_ble_eq_true rfl) ?_
  show AW none MJ6_stringSize_0f7a4 0 0 0 0 [.int (nI k), .null, .null, .null] [] h _
  refine k_iconst (v := nI 1) eJ6_stringSize_0f7a4_0 (by decide) ?_
  refine k_istore_n (L2 := [_, _, _, _]) eJ6_stringSize_0f7a4_1 (Nat.le_of_ble_eq_true rfl) rfl ?_
  refine k_iload_n eJ6_stringSize_0f7a4_2 rfl ?_
  refine k_if_ltN 11 eJ6_stringSize_0f7a4_3 (by decide) (by omega) ?_
  refine k_iconst (v := nI 0) eJ6_stringSize_0f7a4_6 (by decide) ?_
  refine k_istore_n (L2 := [_, _, _, _]) eJ6_stringSize_0f7a4_7 (Nat.le_of_ble_eq_true rfl) rfl ?_
  refine k_iload_n eJ6_stringSize_0f7a4_8 rfl ?_
  refine k_ineg eJ6_stringSize_0f7a4_9 ?_
  refine k_istore_n (L2 := [_, _, _, _]) eJ6_stringSize_0f7a4_10 (Nat.le_of_ble_eq_true rfl) rfl ?_
  refine k_bipush (v := (-10)) eJ6_stringSize_0f7a4_11 (by decide) ?_
  refine k_istore_n (L2 := [_, _, _, _]) eJ6_stringSize_0f7a4_13 (Nat.le_of_ble_eq_true rfl) rfl ?_
  refine k_iconst (v := nI 1) eJ6_stringSize_0f7a4_14 (by decide) ?_
  refine k_istore_n (L2 := [_, _, _, _]) eJ6_stringSize_0f7a4_15 (Nat.le_of_ble_eq_true rfl) rfl ?_
  refine k_iload_n eJ6_stringSize_0f7a4_16 rfl ?_
  refine k_bipush (v := nI 10) eJ6_stringSize_0f7a4_17 (by decide) ?_
  refine k_icmp_geN 42 eJ6_stringSize_0f7a4_19 (by decide) (by omega) (by omega) (fun c_19 => by exfalso; omega) (fun c_19 => ?_)
  refine k_iload_n eJ6_stringSize_0f7a4_22 rfl ?_
  refine k_iload_n eJ6_stringSize_0f7a4_23 rfl ?_
  refine k_icmp_le 31 eJ6_stringSize_0f7a4_24 (by decide) (fun c_24 => by exact absurd ((dg_a k hk).mp c_24) (by omega)) (fun c_24 => ?_)
  refine k_iload_n eJ6_stringSize_0f7a4_27 rfl ?_
  refine k_iload_n eJ6_stringSize_0f7a4_28 rfl ?_
  refine k_iaddN eJ6_stringSize_0f7a4_29 ?_
  refine k_ireturn eJ6_stringSize_0f7a4_30 rfl rfl ?_
  exact ⟨rfl, rfl⟩
set_option maxHeartbeats 1000000 in
theorem pJ6_size2 {h : k_H} {k : Nat} (hk : k < 100) (hk1 : 10 ≤ k) : Sp 0 0 0 MJ6_stringSize_0f7a4 [.int (nI k)] h (Rt (some (.int (nI 2))) h) := by
  refine Sp_of (by decide +kernel) (Nat.le_of_ble_eq_true rfl) ?_
  show AW none MJ6_stringSize_0f7a4 0 0 0 0 [.int (nI k), .null, .null, .null] [] h _
  refine k_iconst (v := nI 1) eJ6_stringSize_0f7a4_0 (by decide) ?_
  refine k_istore_n (L2 := [_, _, _, _]) eJ6_stringSize_0f7a4_1 (Nat.le_of_ble_eq_true rfl) rfl ?_
  refine k_iload_n eJ6_stringSize_0f7a4_2 rfl ?_
  refine k_if_ltN 11 eJ6_stringSize_0f7a4_3 (by decide) (by omega) ?_
  refine k_iconst (v := nI 0) eJ6_stringSize_0f7a4_6 (by decide) ?_
  refine k_istore_n (L2 := [_, _, _, _]) eJ6_stringSize_0f7a4_7 (Nat.le_of_ble_eq_true rfl) rfl ?_
  refine k_iload_n eJ6_stringSize_0f7a4_8 rfl ?_
  refine k_ineg eJ6_stringSize_0f7a4_9 ?_
  refine k_istore_n (L2 := [_, _, _, _]) eJ6_stringSize_0f7a4_10 (Nat.le_of_ble_eq_true rfl) rfl ?_
  refine k_bipush (v := (-10)) eJ6_stringSize_0f7a4_11 (by decide) ?_
  refine k_istore_n (L2 := [_, _, _, _]) eJ6_stringSize_0f7a4_13 (Nat.le_of_ble_eq_true rfl) rfl ?_
  refine k_iconst (v := nI 1) eJ6_stringSize_0f7a4_14 (by decide) ?_
  refine k_istore_n (L2 := [_, _, _, _]) eJ6_stringSize_0f7a4_15 (Nat.le_of_ble_eq_true rfl) rfl ?_
  refine k_iload_n eJ6_stringSize_0f7a4_16 rfl ?_
  refine k_bipush (v := nI 10) eJ6_stringSize_0f7a4_17 (by decide) ?_
  refine k_icmp_geN 42 eJ6_stringSize_0f7a4_19 (by decide) (by omega) (by omega) (fun c_19 => by exfalso; omega) (fun c_19 => ?_)
  refine k_iload_n eJ6_stringSize_0f7a4_22 rfl ?_
  refine k_iload_n eJ6_stringSize_0f7a4_23 rfl ?_
  refine k_icmp_le 31 eJ6_stringSize_0f7a4_24 (by decide) (fun c_24 => ?_) (fun c_24 => by exact absurd ((dg_a k hk).mpr (by omega)) c_24)
  refine k_bipush (v := nI 10) eJ6_stringSize_0f7a4_31 (by decide) ?_
  refine k_iload_n eJ6_stringSize_0f7a4_33 rfl ?_
  refine k_imul eJ6_stringSize_0f7a4_34 ?_
  refine k_istore_n (L2 := [_, _, _, _]) eJ6_stringSize_0f7a4_35 (Nat.le_of_ble_eq_true rfl) rfl ?_
  refine k_iincN (g := 1) (a := 1) (L2 := [_, _, _, _]) eJ6_stringSize_0f7a4_36 (Nat.le_of_ble_eq_true rfl) rfl rfl ?_
  refine k_goto 16 eJ6_stringSize_0f7a4_39 (by decide) ?_
  refine k_iload_n eJ6_stringSize_0f7a4_16 rfl ?_
  refine k_bipush (v := nI 10) eJ6_stringSize_0f7a4_17 (by decide) ?_
  refine k_icmp_geN 42 eJ6_stringSize_0f7a4_19 (by decide) (by omega) (by omega) (fun c_19 => by exfalso; omega) (fun c_19 => ?_)
  refine k_iload_n eJ6_stringSize_0f7a4_22 rfl ?_
  refine k_iload_n eJ6_stringSize_0f7a4_23 rfl ?_
  refine k_icmp_le 31 eJ6_stringSize_0f7a4_24 (by decide) (fun c_24 => by exact absurd c_24 (dg_b k hk)) (fun c_24 => ?_)
  refine k_iload_n eJ6_stringSize_0f7a4_27 rfl ?_
  refine k_iload_n eJ6_stringSize_0f7a4_28 rfl ?_
  refine k_iaddN eJ6_stringSize_0f7a4_29 ?_
  refine k_ireturn eJ6_stringSize_0f7a4_30 rfl rfl ?_
  exact ⟨rfl, rfl⟩
theorem pJ6_size {h : k_H} {k : Nat} (hk : k < 100) : Sp 0 0 0 MJ6_stringSize_0f7a4 [.int (nI k)] h (Rt (some (.int (nI (dgs k)))) h) := by
  unfold dgs
  by_cases h1 : k < 10
  · rw [if_pos h1]; exact pJ6_size1 hk h1
  · rw [if_neg h1]; exact pJ6_size2 hk (by omega)
theorem dgs_le (k : Nat) : dgs k ≤ 2 ∧ 1 ≤ dgs k := by unfold dgs; split <;> omega
set_option maxHeartbeats 1000000 in
theorem pJ6_getChars {h : k_H} {k p q x : Nat} {f : Nat → Int32} (hk : k < 100) (hp9 : h[p]? = some (.inl (q, .inr (.inr f)))) (hf : sb_Fit f) (hx : 2 ≤ x) (hxq : x ≤ q) (hq2 : q ≤ 34) : Sp 0 0 0 MJ6_getChars_ba4f3 [.int (nI k), .int (nI x), .ref p] h (fun r h1 => ∃ v9, r = some (.int v9) ∧ ∃ g : Nat → Int32, sb_Fit g ∧ h1 = h.set p (.inl (q, .inr (.inr g)))) := by
  refine Sp_of (by decide +kernel) (Nat.le_of_ble_eq_true rfl) ?_
  show AW none MJ6_getChars_ba4f3 0 0 0 0 [.int (nI k), .int (nI x), .ref p, .null, .null, .null, .null] [] h _
  refine k_iload_n eJ6_getChars_ba4f3_0 rfl ?_
  refine k_istore (L2 := [_, _, _, _, _, _, _]) eJ6_getChars_ba4f3_1 (Nat.le_of_ble_eq_true rfl) rfl ?_
  refine k_iload_n eJ6_getChars_ba4f3_3 rfl ?_
  refine k_if_geN 11 eJ6_getChars_ba4f3_4 (by decide) (by omega) ?_
  refine k_iconst (v := nI 0) eJ6_getChars_ba4f3_11 (by decide) ?_
  refine k_istore (L2 := [_, _, _, _, _, _, _]) eJ6_getChars_ba4f3_12 (Nat.le_of_ble_eq_true rfl) rfl ?_
  refine k_iload eJ6_getChars_ba4f3_14 rfl ?_
  refine k_if_neN 22 eJ6_getChars_ba4f3_16 (by decide) (by omega) (fun c_16 => by exfalso; omega) (fun c_16 => ?_)
  refine k_iload_n eJ6_getChars_ba4f3_19 rfl ?_
  refine k_ineg eJ6_getChars_ba4f3_20 ?_
  refine k_istore_n (L2 := [_, _, _, _, _, _, _]) eJ6_getChars_ba4f3_21 (Nat.le_of_ble_eq_true rfl) rfl ?_
  refine k_iload_n eJ6_getChars_ba4f3_22 rfl ?_
  refine k_bipush (v := (-100)) eJ6_getChars_ba4f3_23 (by decide) ?_
  refine k_icmp_gt 72 eJ6_getChars_ba4f3_25 (by decide) (fun c_25 => ?_) (fun c_25 => by exact absurd (dg_c k hk) c_25)
  refine k_aload_n eJ6_getChars_ba4f3_72 rfl ?_
  refine k_iinc (v := nI (x - 1)) (L2 := [_, _, _, _, _, _, _]) eJ6_getChars_ba4f3_73 (Nat.le_of_ble_eq_true rfl) rfl (dec1 (by omega)) rfl ?_
  refine k_iload eJ6_getChars_ba4f3_76 rfl ?_
  refine k_gets (t := 2) eJ6_getChars_ba4f3_78 (by decide) fJ6_83 ?_
  refine k_iload_n eJ6_getChars_ba4f3_81 rfl ?_
  refine k_ineg eJ6_getChars_ba4f3_82 ?_
  refine k_topi (nI k) (neg2 _) ?_
  refine k_baldT (t := 2) eJ6_getChars_ba4f3_83 (by decide) (vp_in_nI (show k < 100 by omega) (by omega)) (fun v83 => ?_)
  refine k_bast eJ6_getChars_ba4f3_84 hp9 (vp_in_nI (show (x - 1) < q by omega) (by omega)) (fun g hg => ?_)
  refine k_iload_n eJ6_getChars_ba4f3_85 rfl ?_
  refine k_bipush (v := (-9)) eJ6_getChars_ba4f3_86 (by decide) ?_
  refine k_icmp_ge 104 eJ6_getChars_ba4f3_88 (by decide) (fun c_88 => ?_) (fun c_88 => ?_)
  · refine k_iload eJ6_getChars_ba4f3_104 rfl ?_
    refine k_if_eqN 118 eJ6_getChars_ba4f3_106 (by decide) (by omega) (fun c_106 => ?_) (fun c_106 => by exfalso; omega)
    refine k_iload eJ6_getChars_ba4f3_118 rfl ?_
    refine k_ireturn eJ6_getChars_ba4f3_120 rfl rfl ?_
    exact ⟨_, rfl, g, hg hf, rfl⟩
  refine k_aload_n eJ6_getChars_ba4f3_91 rfl ?_
  refine k_iinc (v := nI (x - 1 - 1)) (L2 := [_, _, _, _, _, _, _]) eJ6_getChars_ba4f3_92 (Nat.le_of_ble_eq_true rfl) rfl (dec1 (by omega)) rfl ?_
  refine k_iload eJ6_getChars_ba4f3_95 rfl ?_
  refine k_gets (t := 1) eJ6_getChars_ba4f3_97 (by decide) fJ6_87 ?_
  refine k_iload_n eJ6_getChars_ba4f3_100 rfl ?_
  refine k_ineg eJ6_getChars_ba4f3_101 ?_
  refine k_topi (nI k) (neg2 _) ?_
  refine k_baldT (t := 1) eJ6_getChars_ba4f3_102 (by decide) (vp_in_nI (show k < 100 by omega) (by omega)) (fun v102 => ?_)
  refine k_bast eJ6_getChars_ba4f3_103 (gs_eq (g_lt hp9)) (vp_in_nI (show (x - 1 - 1) < q by omega) (by omega)) (fun g2 hg2 => ?_)
  rw [List.set_set]
  refine k_iload eJ6_getChars_ba4f3_104 rfl ?_
  refine k_if_eqN 118 eJ6_getChars_ba4f3_106 (by decide) (by omega) (fun c_106 => ?_) (fun c_106 => by exfalso; omega)
  refine k_iload eJ6_getChars_ba4f3_118 rfl ?_
  refine k_ireturn eJ6_getChars_ba4f3_120 rfl rfl ?_
  exact ⟨_, rfl, g2, hg2 (hg hf), rfl⟩
set_option maxHeartbeats 1000000 in
theorem pJ5_appendN {h : k_H} {b a n k : Nat} (hk : k < 100) (hsb : SBn b a n h) (hbh : b ≤ h.length) (hn : n + 2 ≤ 34) (hn0 : 1 ≤ n) : Sp 4 1 34 MJ5_append_c97b9 [.ref a, .int (nI k)] h (fun r h1 => r = some (.ref a) ∧ Kp b h h1 ∧ SBn b a (n + dgs k) h1) := by
  have hsb9 := hsb
  obtain ⟨q, hq0, hnq, hs⟩ := hsb9
  have hs9 := hs
  obtain ⟨hba, p, f, hbp, ha, hp9, hf⟩ := hs9
  have hdg := dgs_le k
  refine Sp_of (by decide +kernel) (Nat.le_of_ble_eq_true rfl) ?_
  show AW none MJ5_append_c97b9 4 1 34 0 [.ref a, .int (nI k), .null, .null] [] h _
  refine k_aload_n eJ5_append_c97b9_0 rfl ?_
  refine k_get eJ5_append_c97b9_1 clJ4 (j := 3) fJ5_79 ha rfl ?_
  refine k_istore_n (L2 := [_, _, _, _]) eJ5_append_c97b9_4 (Nat.le_of_ble_eq_true rfl) rfl ?_
  refine k_iload_n eJ5_append_c97b9_5 rfl ?_
  refine k_iload_n eJ5_append_c97b9_6 rfl ?_
  refine k_callS (M' := MJ6_stringSize_0f7a4) (bc' := 0) (bs' := 0) (bc2 := 1) (bs2 := 34) eJ5_append_c97b9_7 mJ5_245 wJ6_stringSize_0f7a4 sJ6_stringSize_0f7a4 rfl (pJ6_size hk) (by decide) ⟨rfl, rfl⟩ (Nat.le_of_ble_eq_true rfl) ?_
  rintro r h1 ⟨rfl, e1⟩
  obtain rfl := e1.symm
  refine k_iaddN eJ5_append_c97b9_10 ?_
  refine k_istore_n (L2 := [_, _, _, _]) eJ5_append_c97b9_11 (Nat.le_of_ble_eq_true rfl) rfl ?_
  refine k_aload_n eJ5_append_c97b9_12 rfl ?_
  refine k_iload_n eJ5_append_c97b9_13 rfl ?_
  obtain ⟨d1, hd1, c1, s1, hc1, hs1, hE⟩ := pJ5_ensure (w := n + dgs k) hs hbh hq0 (by omega)
  refine k_callU (M' := MJ5_ensureCapacityInternal_d00df) (d' := d1) (bc' := c1) (bs' := s1) (bc2 := 1 - c1) (bs2 := 34 - s1) eJ5_append_c97b9_14 mJ5_100 wJ5_ensureCapacityInternal_d00df uJ5_ensureCapacityInternal_d00df ha rfl hE (by omega) ⟨by omega, by omega⟩ (Nat.le_of_ble_eq_true rfl) ?_
  rintro r h1 ⟨rfl, hk1, q1, hq1, hw1, hs1⟩
  refine AW.room (bc2 := 0) (bs2 := 0) (by omega) (by omega) ?_
  obtain ⟨hba1, p1, f1, hbp1, ha1, hp1, hf1⟩ := hs1
  refine k_aload_n eJ5_append_c97b9_17 rfl ?_
  refine k_callU (M' := MJ5_isLatin1_aae02) (bc' := 0) (bs' := 0) (bc2 := 0) (bs2 := 0) eJ5_append_c97b9_18 mJ5_83 wJ5_isLatin1_aae02 uJ5_isLatin1_aae02 ha1 rfl (pJ5_isLatin1 ha1) (by decide) ⟨rfl, rfl⟩ (Nat.le_of_ble_eq_true rfl) ?_
  rintro r h1 ⟨rfl, e1⟩
  obtain rfl := e1.symm
  refine k_if_eqN 37 eJ5_append_c97b9_21 (by decide) (by omega) (fun c_21 => by exfalso; omega) (fun c_21 => ?_)
  refine k_iload_n eJ5_append_c97b9_24 rfl ?_
  refine k_iload_n eJ5_append_c97b9_25 rfl ?_
  refine k_aload_n eJ5_append_c97b9_26 rfl ?_
  refine k_get eJ5_append_c97b9_27 clJ4 (j := 0) fJ5_15 ha1 rfl ?_
  refine k_callS (M' := MJ6_getChars_ba4f3) (bc' := 0) (bs' := 0) (bc2 := 0) (bs2 := 0) eJ5_append_c97b9_30 mJ5_248 wJ6_getChars_ba4f3 sJ6_getChars_ba4f3 rfl (pJ6_getChars hk hp1 hf1 (by omega) hw1 (by omega)) (by decide) ⟨rfl, rfl⟩ (Nat.le_of_ble_eq_true rfl) ?_
  rintro r h2 ⟨v9, rfl, g, hg, rfl⟩
  have ha2 : (h1.set p1 (.inl (q1, .inr (.inr g))))[a]? = some (.inr (1, [.ref p1, .int 0, .int 0, .int (nI n)])) := gs_ne ha1 (Ne.symm (ap_ne ha1 hp1))
  have hp2 : (h1.set p1 (.inl (q1, .inr (.inr g))))[p1]? = some (.inl (q1, .inr (.inr g))) := gs_eq (g_lt hp1)
  refine k_pop eJ5_append_c97b9_33 rfl ?_
  refine k_goto 48 eJ5_append_c97b9_34 (by decide) ?_
  refine k_aload_n eJ5_append_c97b9_48 rfl ?_
  refine k_iload_n eJ5_append_c97b9_49 rfl ?_
  refine k_put (h2' := _) eJ5_append_c97b9_50 clJ4 (j := 3) fJ5_79 rfl ha2 (Nat.le_of_ble_eq_true rfl) (fun _ => ⟨rfl, rfl⟩) rfl ?_
  refine k_aload_n eJ5_append_c97b9_53 rfl ?_
  refine k_areturn eJ5_append_c97b9_54 rfl (Or.inl ⟨_, rfl⟩) ?_
  exact ⟨rfl, (hk1.set hbp1).set hba1, q1, hq1, hw1, hba1, p1, g, hbp1, gs_eq (g_lt ha2), gs_ne hp2 (ap_ne ha1 hp1), hg⟩
set_option maxHeartbeats 1000000 in
theorem pJ4_appendN {h : k_H} {b a n k : Nat} (hk : k < 100) (hsb : SBn b a n h) (hbh : b ≤ h.length) (hn : n + 2 ≤ 34) (hn0 : 1 ≤ n) : Sp 5 1 34 MJ4_append_bf812 [.ref a, .int (nI k)] h (fun r h1 => r = some (.ref a) ∧ Kp b h h1 ∧ SBn b a (n + dgs k) h1) := by
  have hsb9 := hsb
  obtain ⟨q, hq0, hnq, hs⟩ := hsb9
  have hs9 := hs
  obtain ⟨hba, p, f, hbp, ha, hp9, hf⟩ := hs9
  refine Sp_of (by decide +kernel) (Nat.le_of_ble_eq_true rfl) ?_
  show AW none MJ4_append_bf812 5 1 34 0 [.ref a, .int (nI k)] [] h _
  refine k_aload_n eJ4_append_bf812_0 rfl ?_
  refine k_iload_n eJ4_append_bf812_1 rfl ?_
  refine k_callZ (M' := MJ5_append_c97b9) (bc' := 1) (bs' := 34) (bc2 := 0) (bs2 := 0) eJ4_append_bf812_2 mJ4_53 wJ5_append_c97b9 zJ5_append_c97b9 rfl (by decide +kernel) ha rfl (pJ5_appendN hk hsb hbh hn hn0) (by decide) ⟨rfl, rfl⟩ (Nat.le_of_ble_eq_true rfl) ?_
  rintro r h1 ⟨rfl, hk1, hs1⟩
  refine k_pop eJ4_append_bf812_5 rfl ?_
  refine k_aload_n eJ4_append_bf812_6 rfl ?_
  refine k_areturn eJ4_append_bf812_7 rfl (Or.inl ⟨_, rfl⟩) ?_
  exact ⟨rfl, hk1, hs1⟩
set_option maxHeartbeats 1000000 in
theorem pJ5_init {h : k_H} {a b : Nat} (ha : h[a]? = some (.inr (1, [.null, .int 0, .int 0, .int 0]))) (hba : b ≤ a) (hbh : b ≤ h.length) : Sp 1 1 16 MJ5_init_d00df [.ref a, .int (nI 16)] h (fun r h1 => r = none ∧ Kp b h h1 ∧ SBn b a 0 h1) := by
  refine Sp_of (by decide +kernel) (Nat.le_of_ble_eq_true rfl) ?_
  show AW none MJ5_init_d00df 1 1 16 0 [.ref a, .int (nI 16)] [] h _
  refine k_aload_n eJ5_init_d00df_0 rfl ?_
  refine k_objInit eJ5_init_d00df_1 mJ5_3 w_obj (by decide) (Nat.le_of_ble_eq_true rfl) ?_
  refine k_getsC eJ5_init_d00df_4 fJ5_18 ?_
  refine k_topi (nI 1) rfl ?_
  refine k_if_eqN 25 eJ5_init_d00df_7 (by decide) (by omega) (fun c_7 => by exfalso; omega) (fun c_7 => ?_)
  refine k_aload_n eJ5_init_d00df_10 rfl ?_
  refine k_iload_n eJ5_init_d00df_11 rfl ?_
  refine k_newB (N := 16) (bc2 := 0) (bs2 := 0) (h2' := h ++ [.inl (16, .inr (.inr (fun _ => 0)))]) (a := h.length) eJ5_init_d00df_12 w_arrB (nI_pos (by omega)) (nI_clamp (by omega)) (by omega) ⟨rfl, (Nat.zero_add _).symm⟩ rfl rfl ?_
  refine k_put (h2' := _) eJ5_init_d00df_14 clJ4 (j := 0) fJ5_15 rfl (ga_l ha) (Nat.le_of_ble_eq_true rfl) (fun _ => ⟨rfl, rfl⟩) rfl ?_
  have hl := g_lt ha
  have ha1 : ((h ++ [(.inl (16, .inr (.inr (fun _ => 0))) : k_E)]).set a (.inr (1, [.ref h.length, .int 0, .int 0, .int 0])))[a]? = some (.inr (1, [.ref h.length, .int 0, .int 0, .int 0])) := gs_eq (by rw [List.length_append]; omega)
  refine k_aload_n eJ5_init_d00df_17 rfl ?_
  refine k_iconst (v := nI 0) eJ5_init_d00df_18 (by decide) ?_
  refine k_topi 0 rfl ?_
  refine k_put (h2' := _) eJ5_init_d00df_19 clJ4 (j := 1) fJ5_22 rfl ha1 (Nat.le_of_ble_eq_true rfl) (fun _ => ⟨rfl, rfl⟩) rfl ?_
  rw [List.set_set]
  refine k_goto 38 eJ5_init_d00df_22 (by decide) ?_
  refine k_return eJ5_init_d00df_38 rfl ?_
  exact ⟨rfl, ((Kp.rf hbh).app).set hba, 16, Or.inl rfl, by omega, hba, h.length, _, hbh, ha1, gs_ne ga_e (by omega), sb_fit0⟩
set_option maxHeartbeats 1000000 in
theorem pJ4_init {h : k_H} {a b : Nat} (ha : h[a]? = some (.inr (1, [.null, .int 0, .int 0, .int 0]))) (hba : b ≤ a) (hbh : b ≤ h.length) : Sp 2 1 16 MJ4_init_da8c8 [.ref a] h (fun r h1 => r = none ∧ Kp b h h1 ∧ SBn b a 0 h1) := by
  refine Sp_of (by decide +kernel) (Nat.le_of_ble_eq_true rfl) ?_
  show AW none MJ4_init_da8c8 2 1 16 0 [.ref a] [] h _
  refine k_aload_n eJ4_init_da8c8_0 rfl ?_
  refine k_bipush (v := nI 16) eJ4_init_da8c8_1 (by decide) ?_
  refine k_callI (M' := MJ5_init_d00df) (bc' := 1) (bs' := 16) (bc2 := 0) (bs2 := 0) eJ4_init_da8c8_3 mJ4_1 wJ5_init_d00df iJ5_init_d00df rfl (pJ5_init ha hba hbh) (by decide) ⟨rfl, rfl⟩ (Nat.le_of_ble_eq_true rfl) ?_
  rintro r h1 ⟨rfl, hk1, hs1⟩
  refine k_return eJ4_init_da8c8_6 rfl ?_
  exact ⟨rfl, hk1, hs1⟩
set_option maxHeartbeats 1000000 in
theorem pJ7_checkLength {h : k_H} {n : Nat} (hn : n < 2 ^ 31) : Sp 0 0 0 MJ7_checkLength_df160 [.int (nI 0), .int (nI n)] h (Rt none h) := by
  refine Sp_of (by decide +kernel) (Nat.le_of_ble_eq_true rfl) ?_
  show AW none MJ7_checkLength_df160 0 0 0 0 [.int (nI 0), .int (nI n)] [] h _
  refine k_iload_n eJ7_checkLength_df160_0 rfl ?_
  refine k_iload_n eJ7_checkLength_df160_1 rfl ?_
  refine k_icmp_geN 37 eJ7_checkLength_df160_2 (by decide) (by omega) (by omega) (fun c_2 => ?_) (fun c_2 => by exfalso; omega)
  refine k_return eJ7_checkLength_df160_37 rfl ?_
  exact ⟨rfl, rfl⟩
set_option maxHeartbeats 1000000 in
theorem pJ7_copyRB {h : k_H} {p q n : Nat} {f : Nat → Int32} (hp9 : h[p]? = some (.inl (q, .inr (.inr f)))) (hf : sb_Fit f) (hn : n < q) (hq : q ≤ 34) : Sp 1 1 n MJ7_copyOfRangeByte_39247 [.ref p, .int (nI 0), .int (nI n)] h (fun r h1 => ∃ g : Nat → Int32, sb_Fit g ∧ r = some (.ref h.length) ∧ h1 = h ++ [.inl (n, .inr (.inr g))]) := by
  refine Sp_of (by decide +kernel) (Nat.le_of_ble_eq_true rfl) ?_
  show AW none MJ7_copyOfRangeByte_39247 1 1 n 0 [.ref p, .int (nI 0), .int (nI n), .null, .null] [] h _
  refine k_iload_n eJ7_copyOfRangeByte_39247_0 rfl ?_
  refine k_iload_n eJ7_copyOfRangeByte_39247_1 rfl ?_
  refine k_callS (M' := MJ7_checkLength_df160) (bc' := 0) (bs' := 0) (bc2 := 1) (bs2 := n) eJ7_copyOfRangeByte_39247_2 mJ7_343 wJ7_checkLength_df160 sJ7_checkLength_df160 rfl (pJ7_checkLength (by omega)) (by decide) ⟨rfl, (Nat.zero_add _).symm⟩ (Nat.le_of_ble_eq_true rfl) ?_
  rintro r h1 ⟨rfl, e1⟩
  obtain rfl := e1.symm
  refine k_iload_n eJ7_copyOfRangeByte_39247_5 rfl ?_
  refine k_iload_n eJ7_copyOfRangeByte_39247_6 rfl ?_
  refine k_isubN eJ7_copyOfRangeByte_39247_7 (by omega) ?_
  refine k_topi (nI n) (by rw [Nat.sub_zero]) ?_
  refine k_istore_n (L2 := [_, _, _, _, _]) eJ7_copyOfRangeByte_39247_8 (Nat.le_of_ble_eq_true rfl) rfl ?_
  refine k_iload_n eJ7_copyOfRangeByte_39247_9 rfl ?_
  refine k_newB (N := n) (bc2 := 0) (bs2 := 0) (h2' := h ++ [.inl (n, .inr (.inr (fun _ => 0)))]) (a := h.length) eJ7_copyOfRangeByte_39247_10 w_arrB (nI_pos (by omega)) (nI_clamp (by omega)) (by omega) ⟨rfl, (Nat.zero_add _).symm⟩ rfl rfl ?_
  refine k_astore (L2 := [_, _, _, _, _]) eJ7_copyOfRangeByte_39247_12 (Nat.le_of_ble_eq_true rfl) rfl ?_
  refine k_aload_n eJ7_copyOfRangeByte_39247_14 rfl ?_
  refine k_iload_n eJ7_copyOfRangeByte_39247_15 rfl ?_
  refine k_aload eJ7_copyOfRangeByte_39247_16 rfl ?_
  refine k_iconst (v := nI 0) eJ7_copyOfRangeByte_39247_18 (by decide) ?_
  refine k_aload_n eJ7_copyOfRangeByte_39247_19 rfl ?_
  refine k_alenB eJ7_copyOfRangeByte_39247_20 (ga_l hp9) ?_
  refine k_topi (nI q) rfl ?_
  refine k_iload_n eJ7_copyOfRangeByte_39247_21 rfl ?_
  refine k_isubN eJ7_copyOfRangeByte_39247_22 (by omega) ?_
  refine k_iload_n eJ7_copyOfRangeByte_39247_23 rfl ?_
  refine k_mmin eJ7_copyOfRangeByte_39247_24 mJ7_304 (by decide) (Nat.le_of_ble_eq_true rfl) ?_
  refine k_topi (nI n) (by rw [mn_nI (by omega) (by omega)]; congr 1; omega) ?_
  refine k_cpyB eJ7_copyOfRangeByte_39247_27 mJ7_150 w_cpy (by decide) (Nat.le_of_ble_eq_true rfl) (ga_l hp9) hf ga_e (nI_pos (by omega)) (nI_pos (by omega)) (nI_pos (by omega)) (by rw [nI_clamp (by omega), nI_clamp (by omega)]; omega) (by rw [nI_clamp (by omega), nI_clamp (by omega)]; omega) (fun g hg => ?_)
  rw [List.set_append_right _ _ (Nat.le_refl _), Nat.sub_self]
  refine k_aload eJ7_copyOfRangeByte_39247_30 rfl ?_
  refine k_areturn eJ7_copyOfRangeByte_39247_32 rfl (Or.inr ⟨_, rfl⟩) ?_
  exact ⟨g, hg sb_fit0, rfl, rfl⟩
set_option maxHeartbeats 1000000 in
theorem pJ7_copyRange {h : k_H} {p q n : Nat} {f : Nat → Int32} (hp9 : h[p]? = some (.inl (q, .inr (.inr f)))) (hf : sb_Fit f) (hn : n < q) (hq : q ≤ 34) : Sp 2 1 n MJ7_copyOfRange_39247 [.ref p, .int (nI 0), .int (nI n)] h (fun r h1 => ∃ g : Nat → Int32, sb_Fit g ∧ r = some (.ref h.length) ∧ h1 = h ++ [.inl (n, .inr (.inr g))]) := by
  refine Sp_of (by decide +kernel) (Nat.le_of_ble_eq_true rfl) ?_
  show AW none MJ7_copyOfRange_39247 2 1 n 0 [.ref p, .int (nI 0), .int (nI n)] [] h _
  refine k_iload_n eJ7_copyOfRange_39247_0 rfl ?_
  refine k_if_neN 10 eJ7_copyOfRange_39247_1 (by decide) (by omega) (fun c_1 => by exfalso; omega) (fun c_1 => ?_)
  refine k_iload_n eJ7_copyOfRange_39247_4 rfl ?_
  refine k_aload_n eJ7_copyOfRange_39247_5 rfl ?_
  refine k_alenB eJ7_copyOfRange_39247_6 hp9 ?_
  refine k_topi (nI q) rfl ?_
  refine k_icmp_eqN 17 eJ7_copyOfRange_39247_7 (by decide) (by omega) (by omega) (fun c_7 => by exfalso; omega) (fun c_7 => ?_)
  refine k_aload_n eJ7_copyOfRange_39247_10 rfl ?_
  refine k_iload_n eJ7_copyOfRange_39247_11 rfl ?_
  refine k_iload_n eJ7_copyOfRange_39247_12 rfl ?_
  refine k_callS (M' := MJ7_copyOfRangeByte_39247) (bc' := 1) (bs' := n) (bc2 := 0) (bs2 := 0) eJ7_copyOfRange_39247_13 mJ7_339 wJ7_copyOfRangeByte_39247 sJ7_copyOfRangeByte_39247 rfl (pJ7_copyRB hp9 hf hn hq) (by decide) ⟨rfl, rfl⟩ (Nat.le_of_ble_eq_true rfl) ?_
  rintro r h1 ⟨g, hg, rfl, rfl⟩
  refine k_areturn eJ7_copyOfRange_39247_16 rfl (Or.inr ⟨_, rfl⟩) ?_
  exact ⟨g, hg, rfl, rfl⟩
theorem pJ4_length {h : k_H} {a p n : Nat} (ha : h[a]? = some (.inr (1, [.ref p, .int 0, .int 0, .int (nI n)]))) : Sp 1 0 0 MJ4_length_8abf5 [.ref a] h (Rt (some (.int (nI n))) h) := by
  refine Sp_of (by decide +kernel) (Nat.le_of_ble_eq_true rfl) ?_
  show AW none MJ4_length_8abf5 1 0 0 0 [.ref a] [] h _
  refine k_aload_n eJ4_length_8abf5_0 rfl ?_
  refine k_callZ (M' := MJ5_length_8abf5) (bc' := 0) (bs' := 0) (bc2 := 0) (bs2 := 0) eJ4_length_8abf5_1 mJ4_343 wJ5_length_8abf5 zJ5_length_8abf5 rfl (by decide +kernel) ha rfl (pJ5_length ha) (by decide) ⟨rfl, rfl⟩ (Nat.le_of_ble_eq_true rfl) ?_
  rintro r h1 ⟨rfl, e1⟩
  obtain rfl := e1.symm
  refine k_ireturn eJ4_length_8abf5_4 rfl rfl ?_
  exact ⟨rfl, rfl⟩
set_option maxHeartbeats 1000000 in
theorem pJ0_initB {h : k_H} {b a sp p q n : Nat} {f : Nat → Int32} (hsp : h[sp]? = some (.inr (0, [.null, .int 0, .int 0, .int 0]))) (ha : h[a]? = some (.inr (1, [.ref p, .int 0, .int 0, .int (nI n)]))) (hp9 : h[p]? = some (.inl (q, .inr (.inr f)))) (hf : sb_Fit f) (hn : n < q) (hq : q ≤ 34) (hbs : b ≤ sp) (hbh : b ≤ h.length) : Sp 3 1 n MJ0_init_db425 [.ref sp, .ref a, .null] h (fun r h1 => r = none ∧ Kp b h h1 ∧ ∃ va, ∃ g : Nat → Int32, b ≤ va ∧ h1[sp]? = some (.inr (0, [.ref va, .int 0, .int 0, .int 0])) ∧ h1[va]? = some (.inl (n, .inr (.inr g))) ∧ sb_Fit g) := by
  refine Sp_of (by decide +kernel) (Nat.le_of_ble_eq_true rfl) ?_
  show AW none MJ0_init_db425 3 1 n 0 [.ref sp, .ref a, .null, .null, .null] [] h _
  refine k_aload_n eJ0_init_db425_0 rfl ?_
  refine k_objInit eJ0_init_db425_1 mJ0_1 w_obj (by decide) (Nat.le_of_ble_eq_true rfl) ?_
  refine k_aload_n eJ0_init_db425_4 rfl ?_
  refine k_callU (M' := MJ5_getValue_6d5f1) (bc' := 0) (bs' := 0) (bc2 := 1) (bs2 := n) eJ0_init_db425_5 mJ0_552 wJ5_getValue_6d5f1 uJ5_getValue_6d5f1 ha rfl (pJ5_getValue ha) (by decide) ⟨rfl, (Nat.zero_add _).symm⟩ (Nat.le_of_ble_eq_true rfl) ?_
  rintro r h1 ⟨rfl, e1⟩
  obtain rfl := e1.symm
  refine k_astore_n (L2 := [_, _, _, _, _]) eJ0_init_db425_8 (Nat.le_of_ble_eq_true rfl) rfl ?_
  refine k_aload_n eJ0_init_db425_9 rfl ?_
  refine k_callO (M0 := MJ5_length_8abf5) (M' := MJ4_length_8abf5) (bc' := 0) (bs' := 0) (bc2 := 1) (bs2 := n) eJ0_init_db425_10 mJ0_549 wJ4_length_8abf5 oJ4_length_8abf5 wJ5_length_8abf5 ha rfl (pJ4_length ha) (by decide) ⟨rfl, (Nat.zero_add _).symm⟩ (Nat.le_of_ble_eq_true rfl) ?_
  rintro r h1 ⟨rfl, e1⟩
  obtain rfl := e1.symm
  refine k_istore (L2 := [_, _, _, _, _]) eJ0_init_db425_13 (Nat.le_of_ble_eq_true rfl) rfl ?_
  refine k_aload_n eJ0_init_db425_15 rfl ?_
  refine k_callU (M' := MJ5_isLatin1_aae02) (bc' := 0) (bs' := 0) (bc2 := 1) (bs2 := n) eJ0_init_db425_16 mJ0_1047 wJ5_isLatin1_aae02 uJ5_isLatin1_aae02 ha rfl (pJ5_isLatin1 ha) (by decide) ⟨rfl, (Nat.zero_add _).symm⟩ (Nat.le_of_ble_eq_true rfl) ?_
  rintro r h1 ⟨rfl, e1⟩
  obtain rfl := e1.symm
  refine k_if_eqN 41 eJ0_init_db425_19 (by decide) (by omega) (fun c_19 => by exfalso; omega) (fun c_19 => ?_)
  refine k_aload_n eJ0_init_db425_22 rfl ?_
  refine k_iconst (v := nI 0) eJ0_init_db425_23 (by decide) ?_
  refine k_topi 0 rfl ?_
  refine k_putF (h2' := _) eJ0_init_db425_24 clJ0 (j := 1) fJ0_15 rfl ⟨rfl, rfl⟩ hsp (Nat.le_of_ble_eq_true rfl) (fun _ => ⟨rfl, rfl⟩) rfl ?_
  have hs2 : (h.set sp (.inr (0, [.null, .int 0, .int 0, .int 0])))[sp]? = some (.inr (0, [.null, .int 0, .int 0, .int 0])) := gs_eq (g_lt hsp)
  have hp2 : (h.set sp (.inr (0, [.null, .int 0, .int 0, .int 0])))[p]? = some (.inl (q, .inr (.inr f))) := gs_ne hp9 (ap_ne hsp hp9)
  refine k_aload_n eJ0_init_db425_27 rfl ?_
  refine k_aload_n eJ0_init_db425_28 rfl ?_
  refine k_iconst (v := nI 0) eJ0_init_db425_29 (by decide) ?_
  refine k_iload eJ0_init_db425_30 rfl ?_
  refine k_callS (M' := MJ7_copyOfRange_39247) (bc' := 1) (bs' := n) (bc2 := 0) (bs2 := 0) eJ0_init_db425_32 mJ0_54 wJ7_copyOfRange_39247 sJ7_copyOfRange_39247 rfl (pJ7_copyRange hp2 hf hn hq) (by decide) ⟨rfl, rfl⟩ (Nat.le_of_ble_eq_true rfl) ?_
  rintro r h1 ⟨g, hg, rfl, rfl⟩
  refine k_putF (h2' := _) eJ0_init_db425_35 clJ0 (j := 0) fJ0_9 rfl ⟨rfl, rfl⟩ (ga_l hs2) (Nat.le_of_ble_eq_true rfl) (fun _ => ⟨rfl, rfl⟩) rfl ?_
  refine k_goto 97 eJ0_init_db425_38 (by decide) ?_
  refine k_return eJ0_init_db425_97 rfl ?_
  have hl := g_lt hsp
  refine ⟨rfl, (((Kp.rf hbh).set hbs).app).set hbs, _, g, ?_, gs_eq (by rw [List.length_append, List.length_set]; omega), gs_ne ga_e (by rw [List.length_set]; omega), hg⟩
  rw [List.length_set]; exact hbh
set_option maxHeartbeats 1000000 in
theorem pJ0_initA {h : k_H} {b a sp p q n : Nat} {f : Nat → Int32} (hsp : h[sp]? = some (.inr (0, [.null, .int 0, .int 0, .int 0]))) (ha : h[a]? = some (.inr (1, [.ref p, .int 0, .int 0, .int (nI n)]))) (hp9 : h[p]? = some (.inl (q, .inr (.inr f)))) (hf : sb_Fit f) (hn : n < q) (hq : q ≤ 34) (hbs : b ≤ sp) (hbh : b ≤ h.length) : Sp 4 1 n MJ0_init_81219 [.ref sp, .ref a] h (fun r h1 => r = none ∧ Kp b h h1 ∧ ∃ va, ∃ g : Nat → Int32, b ≤ va ∧ h1[sp]? = some (.inr (0, [.ref va, .int 0, .int 0, .int 0])) ∧ h1[va]? = some (.inl (n, .inr (.inr g))) ∧ sb_Fit g) := by
  refine Sp_of (by decide +kernel) (Nat.le_of_ble_eq_true rfl) ?_
  show AW none MJ0_init_81219 4 1 n 0 [.ref sp, .ref a] [] h _
  refine k_aload_n eJ0_init_81219_0 rfl ?_
  refine k_aload_n eJ0_init_81219_1 rfl ?_
  refine k_null eJ0_init_81219_2 ?_
  refine k_callI (M' := MJ0_init_db425) (bc' := 1) (bs' := n) (bc2 := 0) (bs2 := 0) eJ0_init_81219_3 mJ0_489 wJ0_init_db425 iJ0_init_db425 rfl (pJ0_initB hsp ha hp9 hf hn hq hbs hbh) (by decide) ⟨rfl, rfl⟩ (Nat.le_of_ble_eq_true rfl) ?_
  rintro r h1 ⟨rfl, hQ⟩
  refine k_return eJ0_init_81219_6 rfl ?_
  exact ⟨rfl, hQ⟩
