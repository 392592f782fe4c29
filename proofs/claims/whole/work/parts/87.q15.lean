theorem nI_inj {a b : Nat} (ha : a < 2 ^ 31) (hb : b < 2 ^ 31) (h : nI a = nI b) : a = b := by
  have q := congrArg Int32.toInt h
  rw [nI_toInt ha, nI_toInt hb] at q; omega
theorem clR_app : ∀ (A B : List Int32) (f : Nat → Int32) (i : Nat), clR (A ++ B) f i ↔ clR A f i ∧ clR B f (i + A.length)
  | [], B, f, i => ⟨fun h => ⟨trivial, h⟩, fun h => h.2⟩
  | x :: A, B, f, i => by
    show (cRl x (f i) ∧ clR (A ++ B) f (i + 1)) ↔ (cRl x (f i) ∧ clR A f (i + 1)) ∧ clR B f (i + (A.length + 1))
    rw [clR_app A B f (i + 1), show i + 1 + A.length = i + (A.length + 1) by omega, and_assoc]
theorem clR_cg {f g : Nat → Int32} : ∀ (A : List Int32) (i : Nat), (∀ j, j < A.length → f (i + j) = g (i + j)) → clR A g i → clR A f i
  | [], _, _, _ => trivial
  | x :: A, i, h, ⟨h1, h2⟩ => ⟨by have := h 0 (by simp); rw [Nat.add_zero] at this; rw [this]; exact h1, clR_cg A (i + 1) (fun j hj => by have := h (j + 1) (by simp only [List.length_cons]; omega); rw [show i + (j + 1) = i + 1 + j by omega] at this; exact this) h2⟩
theorem rl_clR {f : Nat → Int32} {o : Nat} : ∀ (c m : List Int32), rlL c m → stk (fun i => f (o + i)) m → clR c.reverse f o
  | [], [], _, _ => trivial
  | x :: c, y :: m, h, h2 => by
    rw [List.reverse_cons, clR_app]
    refine ⟨rl_clR c m h.2 h2.2, ?_, trivial⟩
    have e := rlL_len h.2
    rw [List.length_reverse, e]
    have q : f (o + m.length) = y := h2.1
    rw [q]; exact h.1
  | [], y :: m, h, _ => h.elim
  | x :: c, [], h, _ => h.elim
theorem cds_sn (f : Nat → Int32) : ∀ k i, cds f i (k + 1) = cds f i k ++ [f (i + k)]
  | 0, i => rfl
  | k + 1, i => by
    show f i :: cds f (i + 1) (k + 1) = f i :: (cds f (i + 1) k ++ [f (i + (k + 1))])
    rw [cds_sn f k (i + 1), show i + 1 + k = i + (k + 1) by omega]
theorem cds_rv {f : Nat → Int32} : ∀ l : List Int32, stk f l → cds f 0 l.length = l.reverse
  | [], _ => rfl
  | v :: r, h => by
    rw [List.length_cons, cds_sn, List.reverse_cons, cds_rv r h.2, Nat.zero_add, h.1]
theorem cds_cg {f g : Nat → Int32} : ∀ k i, (∀ j, j < k → f (i + j) = g (i + j)) → cds f i k = cds g i k
  | 0, _, _ => rfl
  | k + 1, i, h => by rw [cds_sn, cds_sn, cds_cg k i (fun j hj => h j (by omega)), h k (by omega)]
theorem crn_no {t : Nat → Int32} {j : Nat} {st : cS} (h : crn t j = some st) (h2 : cst st (t j) = none) : ∀ k, crn t (j + 1 + k) = none
  | 0 => by show (crn t j).bind _ = none; rw [h]; exact h2
  | k + 1 => by show (crn t (j + 1 + k)).bind _ = none; rw [crn_no h h2 k]; rfl
theorem Flt_n {t : Nat → Int32} {n p k : Nat} (h : Flt t n p) (hp0 : p < k) (hk : k ≤ n) : crn t k = none := by
  rcases h with ⟨a, st, b, c⟩ | ⟨a, _⟩
  · have q := crn_no b c (k - (p + 1))
    rw [show p + 1 + (k - (p + 1)) = k by omega] at q; exact q
  · omega
theorem Flt_s {t : Nat → Int32} {n p : Nat} (h : Flt t n p) : p ≤ n ∧ ∃ st, crn t p = some st := by
  rcases h with ⟨a, st, b, c⟩ | ⟨a, st, b, c⟩
  · exact ⟨by omega, st, b⟩
  · rw [a]; exact ⟨Nat.le_refl _, st, b⟩
theorem Flt_u {t : Nat → Int32} {n p q : Nat} (h : Flt t n p) (h2 : Flt t n q) : p = q := by
  obtain ⟨a1, st1, b1⟩ := Flt_s h
  obtain ⟨a2, st2, b2⟩ := Flt_s h2
  by_cases c : p < q
  · have e := Flt_n h c a2; rw [b2] at e; cases e
  · by_cases c2 : q < p
    · have e := Flt_n h2 c2 a1; rw [b1] at e; cases e
    · omega
theorem Flt_ok {t : Nat → Int32} {n p : Nat} (h : Flt t n p) {st : cS} (h2 : crn t n = some st) : ¬ (st.2.2.2.1 = false ∧ (ew 1 st.1 st.2.1).2 = []) := by
  rcases h with ⟨a, s2, b, c⟩ | ⟨a, s2, b, c⟩
  · have e := Flt_n (Or.inl ⟨a, s2, b, c⟩) a (Nat.le_refl n); rw [h2] at e; cases e
  · rw [h2] at b; cases b; exact c
theorem FltP_f {t : Nat → Int32} {n : Nat} {f : Int32} {S : k_S} (h : FltP t n f S) (hf : ¬ f < 0) : ∃ j, f = nI j ∧ Flt t n j := by
  rcases h with ⟨j, st, h1, h2, h3, h4⟩ | ⟨st, h1, h2, h3⟩ | ⟨st, _, _, _, h5, _⟩
  · exact ⟨j, h4, Or.inl ⟨h1, st, h2, h3⟩⟩
  · exact ⟨n, h3, Or.inr ⟨rfl, st, h1, h2⟩⟩
  · rw [h5] at hf; exact absurd (by decide) hf
theorem FltP_o {t : Nat → Int32} {n : Nat} {f : Int32} {S : k_S} (h : FltP t n f S) (hn : n ≤ 120) (hf : f < 0) : ∃ st, crn t n = some st ∧ st.2.2.2.1 = false ∧ (ew 1 st.1 st.2.1).2 = [] ∧ S.1 51 = nI ((ew 1 st.1 st.2.1).1.length + 1) ∧ stk (S.2.1 2) ((-59) :: (ew 1 st.1 st.2.1).1) := by
  rcases h with ⟨j, st, h1, h2, h3, h4⟩ | ⟨st, h1, h2, h3⟩ | ⟨st, h1, h2, h3, h5, h6, h7⟩
  · rw [h4] at hf; exact absurd hf (nI_pos (by omega))
  · rw [h3] at hf; exact absurd hf (nI_pos (by omega))
  · exact ⟨st, h1, h2, h3, h6, h7⟩
theorem FrR.F {S T : k_S} (h : FrR S T) : Frm [51, 52, 53, 54, 55, 56, 57] [2, 3] [] S T := by
  refine ⟨fun k hk => h.1 k (fun q => hk ?_), fun a ha => h.2.1 a (fun q => ha (by rw [q]; decide)) (fun q => ha (by rw [q]; decide)), fun a _ => congrFun h.2.2 a⟩
  simp only [List.mem_cons, List.not_mem_nil, or_false]; omega
theorem FrT.F {S T : k_S} (h : FrT S T) : Frm [2638, 2639, 2640, 2641, 2615] [65, 66] [] S T := by
  refine ⟨fun k hk => ?_, fun a ha => h.2.1 a (fun q => ha (by rw [q]; decide)) (fun q => ha (by rw [q]; decide)), fun a _ => congrFun h.2.2.1 a⟩
  simp only [List.mem_cons, List.not_mem_nil, or_false, not_or] at hk
  exact h.1 k hk.1 hk.2.1 hk.2.2.1 hk.2.2.2.1 hk.2.2.2.2
theorem FrX.F {S T : k_S} {q : Nat} (h : FrX q S T) : Frm [2638, 2639, 2640, 2641, 2615] [65, 66] [] S T := by
  refine ⟨fun k hk => ?_, fun a ha => h.2.1 a (fun q => ha (by rw [q]; decide)) (fun q => ha (by rw [q]; decide)), fun a _ => congrFun h.2.2.1 a⟩
  simp only [List.mem_cons, List.not_mem_nil, or_false, not_or] at hk
  exact h.1 k hk.1 hk.2.1 hk.2.2.1 hk.2.2.2.1 hk.2.2.2.2
theorem TxM.cg {S T : k_S} {q : Nat} {L : List Int32} (h : TxM S q L) (e66 : T.2.1 66 q = S.2.1 66 q) (e65 : ∀ i, 200 * q ≤ i → i < 200 * q + 200 → T.2.1 65 i = S.2.1 65 i) : TxM T q L := by
  obtain ⟨h1, h2, h3, h4⟩ := h
  exact ⟨e66.trans h1, h2, clR_cg L _ (fun j hj => e65 _ (by omega) (by omega)) h3, h4⟩
theorem bcS39_F (S : k_S) (n : Nat) : Frm [1951] [40] [] S (bcS39 S n) := by
  refine ⟨fun k hk => ?_, fun a ha => bcS39_2 S (fun q => ha (by rw [q]; decide)) n, fun a _ => congrFun (bcS39_3 S n) a⟩
  rw [bcS39_1]; exact if_neg (fun q => hk (by rw [q]; decide))
theorem bcS39_T {S : k_S} {n : Nat} {L : List Int32} (h1 : S.1 51 = nI n) (h2 : n ≤ 240) (h3 : cds (S.2.1 2) 0 n = L) (h4 : wfc L 0) : TxOk (bcS39 S n) 1951 40 L := by
  refine ⟨n, ?_, h2, ?_, h4⟩
  · rw [bcS39_1]; exact h1
  · rw [← h3, bcS39_c]
    exact cds_cg n 0 (fun j hj => by rw [fillN_at, if_pos (by omega)])
theorem bcS42_F (S : k_S) (n : Nat) : Frm [2101] [43] [] S (bcS42 S n) := by
  refine ⟨fun k hk => ?_, fun a ha => bcS42_2 S (fun q => ha (by rw [q]; decide)) n, fun a _ => congrFun (bcS42_3 S n) a⟩
  rw [bcS42_1]; exact if_neg (fun q => hk (by rw [q]; decide))
theorem bcS42_T {S : k_S} {n : Nat} {L : List Int32} (h1 : S.1 51 = nI n) (h2 : n ≤ 240) (h3 : cds (S.2.1 2) 0 n = L) (h4 : wfc L 0) : TxOk (bcS42 S n) 2101 43 L := by
  refine ⟨n, ?_, h2, ?_, h4⟩
  · rw [bcS42_1]; exact h1
  · rw [← h3, bcS42_c]
    exact cds_cg n 0 (fun j hj => by rw [fillN_at, if_pos (by omega)])
theorem bcS45_F (S : k_S) (n : Nat) : Frm [2251] [46] [] S (bcS45 S n) := by
  refine ⟨fun k hk => ?_, fun a ha => bcS45_2 S (fun q => ha (by rw [q]; decide)) n, fun a _ => congrFun (bcS45_3 S n) a⟩
  rw [bcS45_1]; exact if_neg (fun q => hk (by rw [q]; decide))
theorem bcS45_T {S : k_S} {n : Nat} {L : List Int32} (h1 : S.1 51 = nI n) (h2 : n ≤ 240) (h3 : cds (S.2.1 2) 0 n = L) (h4 : wfc L 0) : TxOk (bcS45 S n) 2251 46 L := by
  refine ⟨n, ?_, h2, ?_, h4⟩
  · rw [bcS45_1]; exact h1
  · rw [← h3, bcS45_c]
    exact cds_cg n 0 (fun j hj => by rw [fillN_at, if_pos (by omega)])
theorem bo_text {S : k_S} (h : RRx S) (x : Int32) : Both MX11_text MX12_text [.int x] S := by
  have h0 := h
  obtain ⟨wk, rn, dn, tp, T0, T1, T2, lo, tn, nd, nu, kn, ra, h⟩ := h
  have b := h.b1
  have hn := h.b2.tp120
  refine ⟨6, 48, fun v S1 => ∃ vi, v = .int vi ∧ TxtQ S tp x vi S1, by decide, by decide, (pX11_text (S := S) h.b2.tpC hn x).mono ?_, ?_⟩
  · rintro o h' ⟨v, U, rfl, rfl, q⟩
    exact ⟨_, U, rfl, rfl, True.intro, v, rfl, q⟩
  rintro v S1 ⟨vi, rfl, q⟩
  rcases q with ⟨c, rfl, rfl⟩ | ⟨c, f0, T, fr, hF, q⟩
  · refine (pX12_text (S := S1) hn h.b2.tpM x).mono ?_
    rintro o h' ⟨v, U, rfl, rfl, q⟩
    rcases q with ⟨_, rfl, rfl⟩ | ⟨c2, _⟩
    · exact ⟨_, rfl, rfl, h0⟩
    · exact absurd c2 c
  rcases q with ⟨hf, rfl, hU⟩ | ⟨hf, rfl, n1, h51, hn1, hU⟩
  · have f1 : Frm [11, 51, 52, 53, 54, 55, 56, 57] [2, 3] [] S S1 := by rw [hU]; exact (fr.F.wk (by decide) (by decide) (by decide)).si (by decide) _
    obtain ⟨j, rfl, hj⟩ := FltP_f hF hf
    refine (pX12_text (S := S1) hn ((f1.1 2615 (by decide)).trans h.b2.tpM) x).mono ?_
    rintro o h' ⟨v, S2, rfl, rfl, q⟩
    have e64 : S1.2.1 64 = S.2.1 12 := by rw [f1.2.1 64 (by decide), h.b2.tape]
    rcases q with ⟨c2, _⟩ | ⟨_, h15, q⟩
    · exact absurd c c2
    rcases q with ⟨p, hp0, hp1, rfl, hT⟩ | ⟨_, q, cc, W, dg, as, m, hq, _, _, hc, hW, _⟩
    · rw [e64] at hp1
      rw [Flt_u hp1 hj]
      refine ⟨S2, rfl, rfl, ?_⟩
      have f2 := hT.F
      have f : Frm [11, 51, 52, 53, 54, 55, 56, 57, 2638, 2639, 2640, 2641, 2615] [2, 3, 65, 66] [] S S2 := (f1.wk (by decide) (by decide) (by decide)).tr (f2.wk (by decide) (by decide) (by decide))
      have hb2 : B2 S2 0 := ⟨by rw [f.2.1 12 (by decide), f.2.1 64 (by decide)]; exact h.b2.tape, by rw [f2.1 11 (by decide), hU]; rfl, h15, by decide⟩
      have hm := fun (q : Nat) (hq : q < 3) (L : List Int32) (hL : TxM S1 q L) => hL.cg (T := S2) (hT.2.2.2.2 q (by omega)) (fun i hi1 hi2 => hT.2.2.2.1 i (by omega))
      have hb3 : B3 S2 T0 T1 T2 := ⟨h.b3.c0.fr f (by decide) (by decide), h.b3.c1.fr f (by decide) (by decide), h.b3.c2.fr f (by decide) (by decide), hm 0 (by decide) _ (h.b3.m0.fr f1 (by decide) (by decide)), hm 1 (by decide) _ (h.b3.m1.fr f1 (by decide) (by decide)), hm 2 (by decide) _ (h.b3.m2.fr f1 (by decide) (by decide))⟩
      exact ⟨wk, rn, dn, 0, T0, T1, T2, lo, tn, nd, nu, kn, ra, ⟨h.b1.fr f (by decide) (by decide) (by decide), hb2, hb3, h.b4.fr f (by decide), h.b5.fr f (by decide) (by decide), h.b6.fr f (by decide) (by decide), h.b7.fr f (by decide) (by decide), h.b8.fr f (by decide) (by decide)⟩⟩
    · rw [e64] at hc
      have hew := ew_emA (k := 1) (W := []) (by decide) W cc hW
      rw [List.append_nil] at hew
      exact absurd ⟨rfl, by show (ew 1 cc W).2 = []; rw [hew]⟩ (Flt_ok hj hc)
  · obtain ⟨st, hc, hbg, hem, h51', hstk⟩ := FltP_o hF hn hf
    have hwf := crn_wf hn hc hbg hem
    have en1 : n1 = (ew 1 st.1 st.2.1).1.length + 1 := nI_inj (by omega) (by have := hwf.2.2; omega) (h51.symm.trans h51')
    have hcds : cds (T.2.1 2) 0 n1 = ((-59) :: (ew 1 st.1 st.2.1).1).reverse := by
      rw [en1]; exact cds_rv _ hstk
    obtain ⟨L, hL⟩ : ∃ L, ((-59) :: (ew 1 st.1 st.2.1).1).reverse = L := ⟨_, rfl⟩
    have e64 : S1.2.1 64 = S.2.1 12 ∧ S1.1 2615 = nI tp := by
      have g1 : (si T 11 (nI 0)).2.1 64 = S.2.1 64 := fr.F.2.1 64 (by decide)
      have g2 : (si T 11 (nI 0)).1 2615 = S.1 2615 := fr.F.1 2615 (by decide)
      rw [hU]
      split
      · exact ⟨by rw [(bcS39_F _ n1).2.1 64 (by decide), g1, h.b2.tape], by rw [(bcS39_F _ n1).1 2615 (by decide), g2]; exact h.b2.tpM⟩
      · split
        · exact ⟨by rw [(bcS42_F _ n1).2.1 64 (by decide), g1, h.b2.tape], by rw [(bcS42_F _ n1).1 2615 (by decide), g2]; exact h.b2.tpM⟩
        · exact ⟨by rw [(bcS45_F _ n1).2.1 64 (by decide), g1, h.b2.tape], by rw [(bcS45_F _ n1).1 2615 (by decide), g2]; exact h.b2.tpM⟩
    refine (pX12_text (S := S1) hn e64.2 x).mono ?_
    rintro o h' ⟨v, S2, rfl, rfl, q⟩
    rcases q with ⟨c2, _⟩ | ⟨_, h15, q⟩
    · exact absurd c c2
    rcases q with ⟨p, hp0, hp1, rfl, hT⟩ | ⟨rfl, q, cc, W, dg, as, m, hq, hxq, hX, hc2, hW, hrl, hst2, h66, hm121⟩
    · rw [e64.1] at hp1
      exact absurd ⟨hbg, hem⟩ (Flt_ok hp1 hc)
    refine ⟨S2, rfl, rfl, ?_⟩
    rw [e64.1, hc] at hc2
    cases hc2
    have hew := ew_emA (k := 1) (W := []) (by decide) W cc hW
    rw [List.append_nil] at hew
    dsimp only at hwf hL hcds
    rw [hL] at hwf hcds
    have hrl2 : rlL ((-59) :: (ew 1 cc W).1) m := by rw [hew]; exact hrl
    have hlen := rlL_len hrl2
    have hLl : L.length = m.length := by rw [← hL, List.length_reverse]; exact hlen
    have href : ∀ z, z = q → Frm [2638, 2639, 2640, 2641, 2615] [65, 66] [] S1 S2 ∧ TxM S2 z L ∧ FrX z S1 S2 := by
      rintro z rfl
      refine ⟨hX.F, ⟨by rw [hLl]; exact h66, by omega, ?_, hwf.1, hwf.2.1⟩, hX⟩
      rw [← hL]; exact rl_clR _ m hrl2 hst2
    have hx : x = nI (q + 1) := hxq
    rcases (by omega : q = 0 ∨ q = 1 ∨ q = 2) with rfl | rfl | rfl
    · rw [hx, if_pos (by decide)] at hU
      have f1 : Frm [11, 51, 52, 53, 54, 55, 56, 57, 1951] [2, 3, 40] [] S S1 := by
        rw [hU]; exact ((fr.F.wk (by decide) (by decide) (by decide)).si (by decide) _).tr ((bcS39_F _ n1).wk (by decide) (by decide) (by decide))
      have hTk : TxOk S1 1951 40 L := by
        rw [hU]; exact bcS39_T (S := si T 11 (nI 0)) h51 hn1 hcds hwf.1
      obtain ⟨f2, hTm, hX⟩ := href 0  rfl
      have f : Frm [11, 51, 52, 53, 54, 55, 56, 57, 1951, 2638, 2639, 2640, 2641, 2615] [2, 3, 40, 65, 66] [] S S2 := (f1.wk (by decide) (by decide) (by decide)).tr (f2.wk (by decide) (by decide) (by decide))
      have hb2 : B2 S2 0 := ⟨by rw [f.2.1 12 (by decide), f.2.1 64 (by decide)]; exact h.b2.tape, by rw [f2.1 11 (by decide), hU, (bcS39_F _ n1).1 11 (by decide)]; rfl, h15, by decide⟩
      have hb3 : B3 S2 L T1 T2 := ⟨hTk.fr f2 (by decide) (by decide), (h.b3.c1.fr f1 (by decide) (by decide)).fr f2 (by decide) (by decide), (h.b3.c2.fr f1 (by decide) (by decide)).fr f2 (by decide) (by decide), hTm, ((h.b3.m1.fr f1 (by decide) (by decide)).cg (hX.2.2.2.2 1 (by decide) (by decide)) (fun i hi1 hi2 => hX.2.2.2.1 i (by omega) (by omega))), ((h.b3.m2.fr f1 (by decide) (by decide)).cg (hX.2.2.2.2 2 (by decide) (by decide)) (fun i hi1 hi2 => hX.2.2.2.1 i (by omega) (by omega)))⟩
      exact ⟨wk, rn, dn, 0, L, T1, T2, lo, tn, nd, nu, kn, ra, ⟨h.b1.fr f (by decide) (by decide) (by decide), hb2, hb3, h.b4.fr f (by decide), h.b5.fr f (by decide) (by decide), h.b6.fr f (by decide) (by decide), h.b7.fr f (by decide) (by decide), h.b8.fr f (by decide) (by decide)⟩⟩
    · rw [hx, if_neg (by decide), if_pos (by decide)] at hU
      have f1 : Frm [11, 51, 52, 53, 54, 55, 56, 57, 2101] [2, 3, 43] [] S S1 := by
        rw [hU]; exact ((fr.F.wk (by decide) (by decide) (by decide)).si (by decide) _).tr ((bcS42_F _ n1).wk (by decide) (by decide) (by decide))
      have hTk : TxOk S1 2101 43 L := by
        rw [hU]; exact bcS42_T (S := si T 11 (nI 0)) h51 hn1 hcds hwf.1
      obtain ⟨f2, hTm, hX⟩ := href 1  rfl
      have f : Frm [11, 51, 52, 53, 54, 55, 56, 57, 2101, 2638, 2639, 2640, 2641, 2615] [2, 3, 43, 65, 66] [] S S2 := (f1.wk (by decide) (by decide) (by decide)).tr (f2.wk (by decide) (by decide) (by decide))
      have hb2 : B2 S2 0 := ⟨by rw [f.2.1 12 (by decide), f.2.1 64 (by decide)]; exact h.b2.tape, by rw [f2.1 11 (by decide), hU, (bcS42_F _ n1).1 11 (by decide)]; rfl, h15, by decide⟩
      have hb3 : B3 S2 T0 L T2 := ⟨(h.b3.c0.fr f1 (by decide) (by decide)).fr f2 (by decide) (by decide), hTk.fr f2 (by decide) (by decide), (h.b3.c2.fr f1 (by decide) (by decide)).fr f2 (by decide) (by decide), ((h.b3.m0.fr f1 (by decide) (by decide)).cg (hX.2.2.2.2 0 (by decide) (by decide)) (fun i hi1 hi2 => hX.2.2.2.1 i (by omega) (by omega))), hTm, ((h.b3.m2.fr f1 (by decide) (by decide)).cg (hX.2.2.2.2 2 (by decide) (by decide)) (fun i hi1 hi2 => hX.2.2.2.1 i (by omega) (by omega)))⟩
      exact ⟨wk, rn, dn, 0, T0, L, T2, lo, tn, nd, nu, kn, ra, ⟨h.b1.fr f (by decide) (by decide) (by decide), hb2, hb3, h.b4.fr f (by decide), h.b5.fr f (by decide) (by decide), h.b6.fr f (by decide) (by decide), h.b7.fr f (by decide) (by decide), h.b8.fr f (by decide) (by decide)⟩⟩
    · rw [hx, if_neg (by decide), if_neg (by decide)] at hU
      have f1 : Frm [11, 51, 52, 53, 54, 55, 56, 57, 2251] [2, 3, 46] [] S S1 := by
        rw [hU]; exact ((fr.F.wk (by decide) (by decide) (by decide)).si (by decide) _).tr ((bcS45_F _ n1).wk (by decide) (by decide) (by decide))
      have hTk : TxOk S1 2251 46 L := by
        rw [hU]; exact bcS45_T (S := si T 11 (nI 0)) h51 hn1 hcds hwf.1
      obtain ⟨f2, hTm, hX⟩ := href 2  rfl
      have f : Frm [11, 51, 52, 53, 54, 55, 56, 57, 2251, 2638, 2639, 2640, 2641, 2615] [2, 3, 46, 65, 66] [] S S2 := (f1.wk (by decide) (by decide) (by decide)).tr (f2.wk (by decide) (by decide) (by decide))
      have hb2 : B2 S2 0 := ⟨by rw [f.2.1 12 (by decide), f.2.1 64 (by decide)]; exact h.b2.tape, by rw [f2.1 11 (by decide), hU, (bcS45_F _ n1).1 11 (by decide)]; rfl, h15, by decide⟩
      have hb3 : B3 S2 T0 T1 L := ⟨(h.b3.c0.fr f1 (by decide) (by decide)).fr f2 (by decide) (by decide), (h.b3.c1.fr f1 (by decide) (by decide)).fr f2 (by decide) (by decide), hTk.fr f2 (by decide) (by decide), ((h.b3.m0.fr f1 (by decide) (by decide)).cg (hX.2.2.2.2 0 (by decide) (by decide)) (fun i hi1 hi2 => hX.2.2.2.1 i (by omega) (by omega))), ((h.b3.m1.fr f1 (by decide) (by decide)).cg (hX.2.2.2.2 1 (by decide) (by decide)) (fun i hi1 hi2 => hX.2.2.2.1 i (by omega) (by omega))), hTm⟩
      exact ⟨wk, rn, dn, 0, T0, T1, L, lo, tn, nd, nu, kn, ra, ⟨h.b1.fr f (by decide) (by decide) (by decide), hb2, hb3, h.b4.fr f (by decide), h.b5.fr f (by decide) (by decide), h.b6.fr f (by decide) (by decide), h.b7.fr f (by decide) (by decide), h.b8.fr f (by decide) (by decide)⟩⟩
