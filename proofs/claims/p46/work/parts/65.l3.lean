section KG
variable {X : k_X} {M M' : k_M} {d d' bc bs pc n na ix a : Nat} {L st As rest : List Value} {g h0 h2 : k_H} {Po Po' : Option Value → k_H → Prop} {v : Value}
theorem k_callG (hd : k_dc M pc (.invokevirtual ix) 3 n) (hl : Cond.methodLink M.1.cls ix M'.1 ∈ k_tG) (hw : k_mw M' na) (hw2 : Cond.instanceMethod M'.1 ∈ k_tG ∧ Cond.selects M'.1.cls M'.1 M'.1 ∈ k_tG) (hrc : ∃ (ci : Nat) (fs : List Value) (q : vw_C), h0[a]? = some (.inr (ci, fs)) ∧ vwCl[ci]? = some q ∧ q.1 = M'.1.cls) (hpq : k_popn (na + 1) st [] = some (.ref a :: As, rest)) (hsp : Sp d' 0 0 M' (.ref a :: As) h0 Po') (hdd : d' < d) (hct : (rest.map fun v => v.category).sum ≤ 8) (k : ∀ r h', Po' r h' → AW X M d bc bs n L (r.toList ++ rest) (h' ++ g) Po) : AW X M d bc bs pc L st (h0 ++ g) Po := by
  obtain ⟨ci, fs, q, hq1, hq2, hq3⟩ := hrc
  refine k_callV hd hl hw hw2 ⟨by rw [List.getElem?_append_left (g_lt hq1)]; exact hq1, q, hq2, hq3⟩ hpq (Sp.frame (g := g) hsp) hdd ⟨(Nat.zero_add _).symm, (Nat.zero_add _).symm⟩ hct ?_
  rintro r h1 ⟨h', rfl, hp9⟩
  exact k r h' hp9
theorem cG1 (hd : k_dc M pc (.invokevirtual ix) 3 n) (hl : Cond.methodLink M.1.cls ix M'.1 ∈ k_tG) (hw : k_mw M' na) (hw2 : Cond.instanceMethod M'.1 ∈ k_tG ∧ Cond.selects M'.1.cls M'.1 M'.1 ∈ k_tG) (hrc : ∃ (ci : Nat) (fs : List Value) (q : vw_C), h0[a]? = some (.inr (ci, fs)) ∧ vwCl[ci]? = some q ∧ q.1 = M'.1.cls) (hpq : k_popn (na + 1) st [] = some (.ref a :: As, rest)) (hsp : Sp d' 0 0 M' (.ref a :: As) h0 (Rt (some v) h2)) (hdd : d' < d) (hct : (rest.map fun v => v.category).sum ≤ 8) (k : AW X M d bc bs n L (v :: rest) (h2 ++ g) Po) : AW X M d bc bs pc L st (h0 ++ g) Po := by
  refine k_callG hd hl hw hw2 hrc hpq hsp hdd hct ?_
  rintro r h' ⟨rfl, rfl⟩
  exact k
end KG
theorem hp_len (S : k_S) : (hp S).length = 52 := rfl
theorem hq_mv (S T : k_S) (g : k_H) {k : Nat} (hk : 52 ≤ k) : (hp S ++ g)[k]? = (hp T ++ g)[k]? := by
  rw [List.getElem?_append_right (by rw [hp_len]; exact hk), List.getElem?_append_right (by rw [hp_len]; exact hk), hp_len, hp_len]
theorem kp_hp {S : k_S} {h : k_H} (hk : Kp 52 (hp S) h) : ∃ g, h = hp S ++ g := by
  refine ⟨h.drop 52, ?_⟩
  apply List.ext_getElem?
  intro k
  by_cases q : k < 52
  · rw [List.getElem?_append_left (by rw [hp_len]; exact q)]; exact hk.2 k q
  · rw [List.getElem?_append_right (by rw [hp_len]; omega), hp_len, List.getElem?_drop, show 52 + (k - 52) = k by omega]
theorem txt_11 {S U : k_S} {tp : Nat} {x v : Int32} (h : TxtQ S tp x v U) (htp : S.1 11 = nI tp) (h120 : tp ≤ 120) : ∃ tp', tp' ≤ 120 ∧ U.1 11 = nI tp' := by
  rcases h with ⟨_, _, e⟩ | ⟨_, f, T, hF, _, hU⟩
  · exact ⟨tp, h120, by rw [e]; exact htp⟩
  · rcases hU with ⟨_, _, rfl⟩ | ⟨_, _, n1, _, _, rfl⟩
    · exact ⟨0, by omega, rfl⟩
    · refine ⟨0, by omega, ?_⟩
      split
      · rw [bcS39_1]; rfl
      · split
        · rw [bcS42_1]; rfl
        · rw [bcS45_1]; rfl
theorem lost_11 (S : k_S) (x : Int32) : (sLost S x).1 11 = S.1 11 := by
  unfold sLost
  split <;> rfl
/-- what the law's text leaves: the tape alone has changed -/
def TxL (S : k_S) (g : k_H) : Option Value → k_H → Prop := fun r h1 => r = none ∧ ∃ T, h1 = hp T ++ g ∧ Cr S T ∧ ∃ tp, tp ≤ 120 ∧ T.1 11 = nI tp
set_option maxHeartbeats 1000000 in
theorem lL_text {S : k_S} {g : k_H} {sp va m : Nat} {f : Nat → Int32} (hsp : 52 ≤ sp) (hva : 52 ≤ va) (hm : m ≤ 100) (hs0 : (hp S ++ g)[sp]? = some (.inr (0, [.ref va, .int 0, .int 0, .int 0]))) (hv0 : (hp S ++ g)[va]? = some (.inl (m, .inr (.inr f)))) : ∀ (n j : Nat) (T : k_S), j + n = m → Cr S T → (∃ tp, tp ≤ 120 ∧ T.1 11 = nI tp) → AW none ML_text 4 0 0 2 [.ref 0, .ref sp, .int (nI j)] [] (hp T ++ g) (TxL S g) := by
  intro n
  induction n with
  | zero =>
    intro j T hj hC hT
    have hs := (hq_mv T S g hsp).trans hs0
    have hv := (hq_mv T S g hva).trans hv0
    refine k_iload_n eL_text_2 rfl ?_
    refine k_aload_n eL_text_3 rfl ?_
    refine k_callV (M' := MJ0_length_8abf5) (bc' := 0) (bs' := 0) (bc2 := 0) (bs2 := 0) eL_text_4 mL_7 wJ0_length_8abf5 vJ0_length_8abf5 ⟨hs, _, rfl, rfl⟩ rfl (pJ0_length hs hv) (by decide) ⟨rfl, rfl⟩ (Nat.le_of_ble_eq_true rfl) ?_
    rintro r h1 ⟨rfl, e1⟩
    obtain rfl := e1.symm
    refine k_icmp_geN 27 eL_text_7 (by decide) (by omega) (by omega) (fun c_7 => ?_) (fun c_7 => by exfalso; omega)
    refine k_return eL_text_27 rfl ?_
    exact ⟨rfl, T, rfl, hC, hT⟩
  | succ n ih =>
    intro j T hj hC hT
    have hs := (hq_mv T S g hsp).trans hs0
    have hv := (hq_mv T S g hva).trans hv0
    obtain ⟨tp, h120, htp⟩ := hT
    refine k_iload_n eL_text_2 rfl ?_
    refine k_aload_n eL_text_3 rfl ?_
    refine k_callV (M' := MJ0_length_8abf5) (bc' := 0) (bs' := 0) (bc2 := 0) (bs2 := 0) eL_text_4 mL_7 wJ0_length_8abf5 vJ0_length_8abf5 ⟨hs, _, rfl, rfl⟩ rfl (pJ0_length hs hv) (by decide) ⟨rfl, rfl⟩ (Nat.le_of_ble_eq_true rfl) ?_
    rintro r h1 ⟨rfl, e1⟩
    obtain rfl := e1.symm
    refine k_icmp_geN 27 eL_text_7 (by decide) (by omega) (by omega) (fun c_7 => by exfalso; omega) (fun c_7 => ?_)
    refine k_aload_n eL_text_10 rfl ?_
    refine k_iconst (v := nI 1) eL_text_11 (by decide) ?_
    refine k_aload_n eL_text_12 rfl ?_
    refine k_iload_n eL_text_13 rfl ?_
    refine k_callV (M' := MJ0_charAt_5068e) (bc' := 0) (bs' := 0) (bc2 := 0) (bs2 := 0) eL_text_14 mL_13 wJ0_charAt_5068e vJ0_charAt_5068e ⟨hs, _, rfl, rfl⟩ rfl (pJ0_charAt hs hv (by omega) (by omega)) (by decide) ⟨rfl, rfl⟩ (Nat.le_of_ble_eq_true rfl) ?_
    rintro r h1 ⟨c9, rfl, hc9, e1⟩
    obtain rfl := e1.symm
    refine cG1 (M' := MX11_feed) eL_text_17 mL_17 wX11_feed vX11_feed ⟨_, _, _, rfl, rfl, rfl⟩ rfl (pX11_feed htp h120 (nI 1) c9) (by decide) (Nat.le_of_ble_eq_true rfl) ?_
    obtain ⟨hC2, hT2⟩ := cr_fed htp h120 c9
    refine k_pop eL_text_20 rfl ?_
    refine k_iincN (g := 1) (a := j) (L2 := [_, _, _]) eL_text_21 (Nat.le_of_ble_eq_true rfl) rfl rfl ?_
    refine k_goto 2 eL_text_24 (by decide) ?_
    exact ih (j + 1) _ (by omega) (hC.tr hC2) hT2
set_option maxHeartbeats 1000000 in
theorem pL_text {S : k_S} {g : k_H} {sp va m : Nat} {f : Nat → Int32} (hsp : 52 ≤ sp) (hva : 52 ≤ va) (hm : m ≤ 100) (hs0 : (hp S ++ g)[sp]? = some (.inr (0, [.ref va, .int 0, .int 0, .int 0]))) (hv0 : (hp S ++ g)[va]? = some (.inl (m, .inr (.inr f)))) (hT : ∃ tp, tp ≤ 120 ∧ S.1 11 = nI tp) : Sp 4 0 0 ML_text [.ref 0, .ref sp] (hp S ++ g) (TxL S g) := by
  refine Sp_of (by decide +kernel) (Nat.le_of_ble_eq_true rfl) ?_
  show AW none ML_text 4 0 0 0 [.ref 0, .ref sp, .null] [] (hp S ++ g) _
  refine k_iconst (v := nI 0) eL_text_0 (by decide) ?_
  refine k_istore_n (L2 := [_, _, _]) eL_text_1 (Nat.le_of_ble_eq_true rfl) rfl ?_
  exact lL_text hsp hva hm hs0 hv0 m 0 S (by omega) (Cr.rf S) hT
