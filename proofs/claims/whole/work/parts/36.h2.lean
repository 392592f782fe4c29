/-- the risk of a day, in thousandths; how whole one is ahead of a day, in millionths; the part hurt on it first; what is left of never hurt -/
def clp (v : Int32) : Nat := ix (mx (nI 0) (mn (nI 1000) v))
theorem clp_eq (v : Int32) : mx (nI 0) (mn (nI 1000) v) = nI (clp v) ∧ clp v ≤ 1000 := by
  have h : nI 0 ≤ mx (nI 0) (mn (nI 1000) v) ∧ mx (nI 0) (mn (nI 1000) v) ≤ nI 1000 := by
    unfold mx mn
    simp only [Int32.lt_iff_toInt_lt, Int32.le_iff_toInt_le, show (nI 0).toInt = 0 from by decide, show (nI 1000).toInt = 1000 from by decide]
    by_cases c : v.toInt < 1000
    · rw [if_pos c]
      by_cases c2 : 0 < v.toInt
      · rw [if_pos c2]; omega
      · rw [if_neg c2]; decide
    · rw [if_neg c]; decide
  obtain ⟨j, h1, h2⟩ := k_rngle h.1 h.2 (by decide)
  have e : clp v = j := by rw [clp, h2]; exact ix_nI (by omega)
  rw [e]; exact ⟨h2, h1⟩
def rsk (V : k_V) (dn r : Nat) (T : List Int32) (d : Nat) : Nat := clp (gv (nmV V dn r d) T false [])
theorem rsk_le (V : k_V) (dn r : Nat) (T : List Int32) (d : Nat) : rsk V dn r T d ≤ 1000 := (clp_eq _).2
def whl (V : k_V) (dn r : Nat) (T : List Int32) : Nat → Nat
  | 0 => 1000000
  | d + 1 => whl V dn r T d * (1000 - rsk V dn r T d) / 1000
def fsO (V : k_V) (dn r : Nat) (T : List Int32) (d : Nat) : Nat := whl V dn r T d * rsk V dn r T d / 1000
def nev (V : k_V) (dn r : Nat) (T : List Int32) : Nat → Nat
  | 0 => 1000000
  | d + 1 => nev V dn r T d - fsO V dn r T d
theorem whl_s (V : k_V) (dn r : Nat) (T : List Int32) (d : Nat) : whl V dn r T (d + 1) + fsO V dn r T d ≤ whl V dn r T d := by
  have h := rsk_le V dn r T d
  have e : whl V dn r T d * (1000 - rsk V dn r T d) + whl V dn r T d * rsk V dn r T d = whl V dn r T d * 1000 := by rw [← Nat.mul_add]; congr 1; omega
  show whl V dn r T d * (1000 - rsk V dn r T d) / 1000 + whl V dn r T d * rsk V dn r T d / 1000 ≤ _
  omega
theorem whl_le (V : k_V) (dn r : Nat) (T : List Int32) : ∀ d, whl V dn r T d ≤ 1000000
  | 0 => Nat.le_refl _
  | d + 1 => by have := whl_s V dn r T d; have := whl_le V dn r T d; omega
theorem nev_ge (V : k_V) (dn r : Nat) (T : List Int32) : ∀ d, whl V dn r T d ≤ nev V dn r T d ∧ nev V dn r T d ≤ 1000000
  | 0 => ⟨Nat.le_refl _, Nat.le_refl _⟩
  | d + 1 => by have := whl_s V dn r T d; have := nev_ge V dn r T d; rw [nev]; omega
/-- what is lost behind a day -/
def lsB (f : Nat → Int32) (lo d : Nat) : Int32 := sumN (fun j => f (d + 1 + j)) (min lo (119 - d))
def tgt (V : k_V) (dn r : Nat) (T : List Int32) (f : Nat → Int32) (lo : Nat) (fit : Int32) : Nat → Int64
  | 0 => 0
  | d + 1 => tgt V dn r T f lo fit d + (nI (fsO V dn r T d)).toInt64 * (fit - lsB f lo d).toInt64
def mnF (V : k_V) (dn r : Nat) (T : List Int32) (lo d : Nat) : Int32 := ((tgt V dn r T (bg V r (d + 1)) lo (sumN (bg V r (d + 1)) 120) (d + 1) + (nI (nev V dn r T (d + 1))).toInt64 * (sumN (bg V r (d + 1)) 120).toInt64) / 1000000).toInt32
/-- the first day of k from j on of which a text says something -/
def fst0 (g : Nat → Int32) (j : Nat) : Nat → Int32
  | 0 => -2
  | k + 1 => if g j = 0 then fst0 g (j + 1) k else nI j
def jdg (V : k_V) (dn r : Nat) (T : List Int32) : Int32 := fst0 (fun d => gv (nmV V dn r d) T false []) 0 120
/-- a day of a year lived; a year; years -/
def rndz (z : Int32) : Int32 := z * nI 1103515245 + nI 12345
def rndv (z : Int32) : Int32 := (((z).toUInt32 >>> ((nI 8).toUInt32 &&& Int32.toUInt32 31)).toInt32) - (((z).toUInt32 >>> ((nI 8).toUInt32 &&& Int32.toUInt32 31)).toInt32) / nI 1000 * nI 1000
def yd (bgf : Nat → Int32) (rk : Nat → Int32) (lo : Nat) (q : Int32 × Int32 × Int64) : Nat → Int32 × Int32 × Int64 × Nat
  | 0 => (q.1, q.2.1, q.2.2, 0)
  | j + 1 => if 0 < (yd bgf rk lo q j).2.2.2 then ((yd bgf rk lo q j).1, (yd bgf rk lo q j).2.1, (yd bgf rk lo q j).2.2.1, (yd bgf rk lo q j).2.2.2 - 1)
    else if rndv (rndz (yd bgf rk lo q j).1) < rk j then (rndz (yd bgf rk lo q j).1, (yd bgf rk lo q j).2.1 + 1, (yd bgf rk lo q j).2.2.1 + (bgf j).toInt64, lo)
    else (rndz (yd bgf rk lo q j).1, (yd bgf rk lo q j).2.1, (yd bgf rk lo q j).2.2.1 + (bgf j).toInt64, 0)
def itN {A : Type} (F : A → A) (a : A) : Nat → A
  | 0 => a
  | n + 1 => F (itN F a n)
def tr3 (q : Int32 × Int32 × Int64 × Nat) : Int32 × Int32 × Int64 := (q.1, q.2.1, q.2.2.1)
def yF (bgf : Nat → Int32) (rk : Nat → Int32) (lo : Nat) (q : Int32 × Int32 × Int64) : Int32 × Int32 × Int64 := tr3 (yd bgf rk lo q 120)
def ys (bgf : Nat → Int32) (rk : Nat → Int32) (lo : Nat) (seed : Int32) (n : Nat) : Int32 × Int32 × Int64 := itN (yF bgf rk lo) (seed, nI 0, 0) n
theorem itN_s {A : Type} (F : A → A) (a : A) (n : Nat) : itN F a (n + 1) = F (itN F a n) := rfl
theorem ys_s (bgf : Nat → Int32) (rk : Nat → Int32) (lo : Nat) (seed : Int32) (n : Nat) : ys bgf rk lo seed (n + 1) = tr3 (yd bgf rk lo (ys bgf rk lo seed n) 120) := by
  unfold ys
  rw [itN_s, yF]
theorem yd_le {bgf rk : Nat → Int32} {lo : Nat} {q : Int32 × Int32 × Int64} (hl : lo ≤ 60) : ∀ j, (yd bgf rk lo q j).2.2.2 ≤ 60
  | 0 => Nat.zero_le _
  | j + 1 => by
    have := yd_le (bgf := bgf) (rk := rk) (q := q) hl j
    rw [yd]; split
    · show _ - 1 ≤ 60; omega
    · split
      · exact hl
      · exact Nat.zero_le _
set_option maxHeartbeats 400000 in
theorem lX4_readRisks {d0 : Nat} (hdd : 4 ≤ d0) {S0 : k_S} {V : k_V} (hV : vC S0 = V) {dn : Nat} (hdn : S0.1 1302 = nI dn) (hcd : CntOk V dn) (hpl : PlanOk V) {r la : Nat} (hr : r < 5) (hla : la < 120) {T : List Int32} (hT : TxOk S0 1951 40 T) : ∀ (k j : Nat) (S : k_S), j + k = la + 1 → (∀ i, i < j → S.2.1 49 i = nI (rsk V dn r T i)) → (∀ i, i < j → S.2.1 50 i = nI (whl V dn r T i)) → (Frm [1953, 2103, 2253] [41, 44, 47, 48, 49, 50, 51] [] S0 S) → AW none MX4_readRisks d0 0 0 6 [.ref 38, .int (nI r), .int (nI la), .int (nI (whl V dn r T j)), .int (nI j), .null] [] (hp S) (Rx none (fun S' => (∀ i, i < la + 1 → S'.2.1 49 i = nI (rsk V dn r T i)) ∧ (∀ i, i < la + 2 → S'.2.1 50 i = nI (whl V dn r T i)) ∧ Frm [1953, 2103, 2253] [41, 44, 47, 48, 49, 50, 51] [] S0 S')) := by
  intro k
  induction k with
  | zero =>
    intro j S hj h49 h50 f0
    have ej : j = la + 1 := by omega
    subst ej
    refine k_iload eX4_readRisks_6 rfl ?_
    refine k_iload_n eX4_readRisks_8 rfl ?_
    refine k_icmp_gtN 82 eX4_readRisks_9 (by decide) (by omega) (by omega) (fun c_9 => ?_) (fun c_9 => by exfalso; omega)
    refine k_aload_n eX4_readRisks_82 rfl ?_
    refine GX4_35 eX4_readRisks_83 rfl ?_
    refine k_iload_n eX4_readRisks_86 rfl ?_
    refine k_iconst (v := nI 1) eX4_readRisks_87 (by decide) ?_
    refine k_iaddN eX4_readRisks_88 ?_
    refine k_iload_n eX4_readRisks_89 rfl ?_
    refine cN0 (M' := MX11_write) eX4_readRisks_90 mX4_75 wX11_write sX11_write rfl (pX11_writeN (j := (la + 1)) (v := nI (whl V dn r T (la + 1))) (ar50 _) (by omega) (by decide) (as50 _ _)) (by omega) (Nat.le_of_ble_eq_true rfl) ?_
    refine k_return eX4_readRisks_93 rfl ?_
    refine ⟨rfl, _, rfl, fun i hi => h49 i hi, fun i hi => ?_, f0.sa (by decide) _⟩
    show va_up (S.2.1 50) (la + 1) _ i = _
    rw [va_up]
    by_cases q : i = la + 1
    · rw [if_pos q, q]
    · rw [if_neg q]; exact h50 i (by omega)
  | succ k ih =>
    intro j S hj h49 h50 f0
    have hV1 : vC S = V := (f0.V (by decide)).trans hV
    have hdn1 : S.1 1302 = nI dn := (f0.1 1302 (by decide)).trans hdn
    refine k_iload eX4_readRisks_6 rfl ?_
    refine k_iload_n eX4_readRisks_8 rfl ?_
    refine k_icmp_gtN 82 eX4_readRisks_9 (by decide) (by omega) (by omega) (fun c_9 => by exfalso; omega) (fun c_9 => ?_)
    refine k_aload_n eX4_readRisks_12 rfl ?_
    refine k_iload_n eX4_readRisks_13 rfl ?_
    refine k_iload eX4_readRisks_14 rfl ?_
    refine cVX0 (v := .null) (M' := MX4_nameDay) eX4_readRisks_16 mX4_58 wX4_nameDay vX4_nameDay ⟨_, _, _, rfl, rfl, rfl⟩ rfl (pX4_nameDay (S := S) (V := V) (dn := dn) (r := r) (dd := j) hV1 hdn1 hcd hpl (by omega) (by omega)) (by omega) (Nat.le_of_ble_eq_true rfl) ?_
    rintro S2 ⟨hn2, f2⟩
    have hT2 : TxOk S2 1951 40 T := (hT.fr f0 (by decide) (by decide)).fr f2 (by decide) (by decide)
    refine k_iconst (v := nI 0) eX4_readRisks_19 (by decide) ?_
    refine k_sipush (v := nI 1000) eX4_readRisks_20 (by decide) ?_
    refine k_aload_n eX4_readRisks_23 rfl ?_
    refine GX4_12 eX4_readRisks_24 rfl ?_
    refine k_aload_n eX4_readRisks_27 rfl ?_
    refine GX4_28 eX4_readRisks_28 rfl ?_
    refine cVX1 (M' := MX9_given) eX4_readRisks_31 mX4_62 wX9_given vX9_given ⟨_, _, _, rfl, rfl, rfl⟩ rfl (gX9_39 (S := S2) hT2) (by omega) (Nat.le_of_ble_eq_true rfl) ?_
    intro S3 f3
    refine k_topi ((gv (nmV V dn r j) T false [])) (gv_congr hn2 T false []) ?_
    refine k_mmin eX4_readRisks_34 mX4_66 (by omega) (Nat.le_of_ble_eq_true rfl) ?_
    refine k_mmax eX4_readRisks_37 mX4_72 (by omega) (Nat.le_of_ble_eq_true rfl) ?_
    refine k_topi (nI (rsk V dn r T j)) (clp_eq _).1 ?_
    refine k_istore (L2 := [_, _, _, _, _, _]) eX4_readRisks_40 (Nat.le_of_ble_eq_true rfl) rfl ?_
    refine k_aload_n eX4_readRisks_42 rfl ?_
    refine GX4_32 eX4_readRisks_43 rfl ?_
    refine k_iload eX4_readRisks_46 rfl ?_
    refine k_iload eX4_readRisks_48 rfl ?_
    refine cN0 (M' := MX11_write) eX4_readRisks_50 mX4_75 wX11_write sX11_write rfl (pX11_writeN (j := j) (v := nI (rsk V dn r T j)) (ar49 _) (by omega) (by decide) (as49 _ _)) (by omega) (Nat.le_of_ble_eq_true rfl) ?_
    refine k_aload_n eX4_readRisks_53 rfl ?_
    refine GX4_35 eX4_readRisks_54 rfl ?_
    refine k_iload eX4_readRisks_57 rfl ?_
    refine k_iload_n eX4_readRisks_59 rfl ?_
    refine cN0 (M' := MX11_write) eX4_readRisks_60 mX4_75 wX11_write sX11_write rfl (pX11_writeN (j := j) (v := nI (whl V dn r T j)) (ar50 _) (by omega) (by decide) (as50 _ _)) (by omega) (Nat.le_of_ble_eq_true rfl) ?_
    refine k_iload_n eX4_readRisks_63 rfl ?_
    refine k_sipush (v := nI 1000) eX4_readRisks_64 (by decide) ?_
    refine k_iload eX4_readRisks_67 rfl ?_
    have hrl := rsk_le V dn r T j
    have hwl := whl_le V dn r T j
    have hml : whl V dn r T j * (1000 - rsk V dn r T j) ≤ 1000000 * 1000 := Nat.mul_le_mul hwl (by omega)
    refine k_isubN eX4_readRisks_69 (by omega) ?_
    refine k_imulN eX4_readRisks_70 ?_
    refine k_sipush (v := nI 1000) eX4_readRisks_71 (by decide) ?_
    refine k_idivN eX4_readRisks_74 (by omega) (by omega) (by omega) ?_
    refine k_istore_n (L2 := [_, _, _, _, _, _]) eX4_readRisks_75 (Nat.le_of_ble_eq_true rfl) rfl ?_
    refine k_iincN (g := 1) (a := j) (L2 := [_, _, _, _, _, _]) eX4_readRisks_76 (Nat.le_of_ble_eq_true rfl) rfl rfl ?_
    refine k_goto 6 eX4_readRisks_79 (by decide) ?_
    have g23 : Frm [1953, 2103, 2253] [41, 44, 47, 48, 49, 50, 51] [] S S3 := (f2.wk (by decide) (by decide) (by decide)).tr (f3.wk (by decide) (by decide) (by decide))
    have g49 : S3.2.1 49 = S.2.1 49 := (f3.2.1 49 (by decide)).trans (f2.2.1 49 (by decide))
    have g50 : S3.2.1 50 = S.2.1 50 := (f3.2.1 50 (by decide)).trans (f2.2.1 50 (by decide))
    refine k_forget 5 (L2 := [_, _, _, _, _, _]) rfl ?_
    refine ih (j + 1) _ (by omega) (fun i hi => ?_) (fun i hi => ?_) (((f0.tr g23).sa (by decide) _).sa (by decide) _)
    · show va_up (S3.2.1 49) j _ i = _
      rw [va_up]
      by_cases q : i = j
      · rw [if_pos q, q]
      · rw [if_neg q, g49]; exact h49 i (by omega)
    · show va_up (S3.2.1 50) j _ i = _
      rw [va_up]
      by_cases q : i = j
      · rw [if_pos q, q]
      · rw [if_neg q, g50]; exact h50 i (by omega)
set_option maxHeartbeats 400000 in
theorem pX4_readRisks {S : k_S} {V : k_V} (hV : vC S = V) {dn : Nat} (hdn : S.1 1302 = nI dn) (hcd : CntOk V dn) (hpl : PlanOk V) {r la : Nat} (hr : r < 5) (hla : la < 120) {T : List Int32} (hT : TxOk S 1951 40 T) : Sp 4 0 0 MX4_readRisks [.ref 38, .int (nI r), .int (nI la)] (hp S) (Rx none (fun S' => (∀ i, i < la + 1 → S'.2.1 49 i = nI (rsk V dn r T i)) ∧ (∀ i, i < la + 2 → S'.2.1 50 i = nI (whl V dn r T i)) ∧ Frm [1953, 2103, 2253] [41, 44, 47, 48, 49, 50, 51] [] S S')) := by
  refine Sp_of (by decide +kernel) (Nat.le_of_ble_eq_true rfl) ?_
  show AW none MX4_readRisks 4 0 0 0 [.ref 38, .int (nI r), .int (nI la), .null, .null, .null] [] (hp S) _
  refine k_ldc eX4_readRisks_0 kX4_57 rfl ?_
  refine k_topi (nI 1000000) (by decide) ?_
  refine k_istore_n (L2 := [_, _, _, _, _, _]) eX4_readRisks_2 (Nat.le_of_ble_eq_true rfl) rfl ?_
  refine k_iconst (v := nI 0) eX4_readRisks_3 (by decide) ?_
  refine k_istore (L2 := [_, _, _, _, _, _]) eX4_readRisks_4 (Nat.le_of_ble_eq_true rfl) rfl ?_
  exact lX4_readRisks (by decide) hV hdn hcd hpl hr hla hT (la + 1) 0 S (by omega) (fun i hi => absurd hi (by omega)) (fun i hi => absurd hi (by omega)) (Frm.rf S)
set_option maxHeartbeats 400000 in
theorem lX4_meanFit {d : Nat} {Po : Option Value → k_H → Prop} (hdd : 3 ≤ d) {S : k_S} {V : k_V} {dn r dd lo : Nat} {T : List Int32} (hdd2 : dd < 120) (hlo : S.1 1907 = nI lo) (hlo2 : lo ≤ 60) (h49 : ∀ i, i < dd + 1 → S.2.1 49 i = nI (rsk V dn r T i)) (h50 : ∀ i, i < dd + 2 → S.2.1 50 i = nI (whl V dn r T i)) (h51 : ∀ i, i < 120 → S.2.1 51 i = bg V r (dd + 1) i) (kx : AW none MX4_meanFit d 0 0 68 [.ref 38, .int (nI r), .int (nI dd), .int ((sumN (bg V r (dd + 1)) 120)), .long ((tgt V dn r T (bg V r (dd + 1)) lo (sumN (bg V r (dd + 1)) 120) ((dd + 1)))), .null, .int (nI (nev V dn r T ((dd + 1)))), .int (nI ((dd + 1)))] [] (hp S) Po) : ∀ (n j : Nat), j + n = (dd + 1) → AW none MX4_meanFit d 0 0 23 [.ref 38, .int (nI r), .int (nI dd), .int ((sumN (bg V r (dd + 1)) 120)), .long ((tgt V dn r T (bg V r (dd + 1)) lo (sumN (bg V r (dd + 1)) 120) j)), .null, .int (nI (nev V dn r T j)), .int (nI j)] [] (hp S) Po := by
  intro n
  induction n with
  | zero =>
    intro j hj
    rw [show j = (dd + 1) by omega]
    refine k_iload eX4_meanFit_23 rfl ?_
    refine k_iload_n eX4_meanFit_25 rfl ?_
    refine k_icmp_gtN 68 eX4_meanFit_26 (by decide) (by omega) (by omega) (fun c_26 => ?_) (fun c_26 => by exfalso; omega)
    exact kx
  | succ n ih =>
    intro j hj
    have hws := whl_s V dn r T j
    have hng := nev_ge V dn r T j
    refine k_iload eX4_meanFit_23 rfl ?_
    refine k_iload_n eX4_meanFit_25 rfl ?_
    refine k_icmp_gtN 68 eX4_meanFit_26 (by decide) (by omega) (by omega) (fun c_26 => by exfalso; omega) (fun c_26 => ?_)
    refine k_iload eX4_meanFit_29 rfl ?_
    refine k_aload_n eX4_meanFit_31 rfl ?_
    refine k_iload eX4_meanFit_32 rfl ?_
    refine cV1 (M' := MX4_firstOn) eX4_meanFit_34 mX4_129 wX4_firstOn vX4_firstOn ⟨_, _, _, rfl, rfl, rfl⟩ rfl (pX4_firstOn (S := S) (j := j) (wj := whl V dn r T j) (rj := rsk V dn r T j) (by omega) (h50 j (by omega)) (h49 j (by omega)) (whl_le V dn r T j) (rsk_le V dn r T j)) (by omega) (Nat.le_of_ble_eq_true rfl) ?_
    refine k_topi (nI (fsO V dn r T j)) rfl ?_
    refine k_isubN eX4_meanFit_37 (by omega) ?_
    refine k_istore (L2 := [_, _, _, _, _, _, _, _]) eX4_meanFit_38 (Nat.le_of_ble_eq_true rfl) rfl ?_
    refine k_lload eX4_meanFit_40 rfl ?_
    refine k_aload_n eX4_meanFit_42 rfl ?_
    refine k_iload eX4_meanFit_43 rfl ?_
    refine cV1 (M' := MX4_firstOn) eX4_meanFit_45 mX4_129 wX4_firstOn vX4_firstOn ⟨_, _, _, rfl, rfl, rfl⟩ rfl (pX4_firstOn (S := S) (j := j) (wj := whl V dn r T j) (rj := rsk V dn r T j) (by omega) (h50 j (by omega)) (h49 j (by omega)) (whl_le V dn r T j) (rsk_le V dn r T j)) (by omega) (Nat.le_of_ble_eq_true rfl) ?_
    refine k_topi (nI (fsO V dn r T j)) rfl ?_
    refine k_i2l eX4_meanFit_48 ?_
    refine k_iload_n eX4_meanFit_49 rfl ?_
    refine k_aload_n eX4_meanFit_50 rfl ?_
    refine k_iload eX4_meanFit_51 rfl ?_
    refine cV1 (M' := MX4_lostBehind) eX4_meanFit_53 mX4_132 wX4_lostBehind vX4_lostBehind ⟨_, _, _, rfl, rfl, rfl⟩ rfl (pX4_lostBehind (S := S) (f := bg V r (dd + 1)) hlo hlo2 (by omega) h51) (by omega) (Nat.le_of_ble_eq_true rfl) ?_
    refine k_isub eX4_meanFit_56 ?_
    refine k_i2l eX4_meanFit_57 ?_
    refine k_lmul eX4_meanFit_58 ?_
    refine k_ladd eX4_meanFit_59 ?_
    refine k_lstore (L2 := [_, _, _, _, _, _, _, _]) eX4_meanFit_60 (Nat.le_of_ble_eq_true rfl) rfl ?_
    refine k_iincN (g := 1) (a := j) (L2 := [_, _, _, _, _, _, _, _]) eX4_meanFit_62 (Nat.le_of_ble_eq_true rfl) rfl rfl ?_
    refine k_goto 23 eX4_meanFit_65 (by decide) ?_
    exact ih (j + 1) (by omega)
set_option maxHeartbeats 400000 in
theorem pX4_meanFit {S : k_S} {V : k_V} (hV : vC S = V) {dn : Nat} (hdn : S.1 1302 = nI dn) (hcd : CntOk V dn) (hpl : PlanOk V) {r dd lo : Nat} (hr : r < 5) (hdd2 : dd < 120) (hlo : S.1 1907 = nI lo) (hlo2 : lo ≤ 60) {T : List Int32} (hT : TxOk S 1951 40 T) : Sp 5 0 0 MX4_meanFit [.ref 38, .int (nI r), .int (nI dd)] (hp S) (Rx (some (.int (mnF V dn r T lo dd))) (fun S' => Frm [1953, 2103, 2253] [41, 44, 47, 48, 49, 50, 51] [] S S')) := by
  refine Sp_of (by decide +kernel) (Nat.le_of_ble_eq_true rfl) ?_
  show AW none MX4_meanFit 5 0 0 0 [.ref 38, .int (nI r), .int (nI dd), .null, .null, .null, .null, .null] [] (hp S) _
  refine k_aload_n eX4_meanFit_0 rfl ?_
  refine k_iload_n eX4_meanFit_1 rfl ?_
  refine k_iload_n eX4_meanFit_2 rfl ?_
  refine cVX0 (v := .null) (M' := MX4_readRisks) eX4_meanFit_3 mX4_123 wX4_readRisks vX4_readRisks ⟨_, _, _, rfl, rfl, rfl⟩ rfl (pX4_readRisks (S := S) (V := V) (dn := dn) (r := r) (la := dd) (T := T) hV hdn hcd hpl (by omega) (by omega) hT) (by decide) (Nat.le_of_ble_eq_true rfl) ?_
  rintro S2 ⟨h49, h50, f2⟩
  have hV2 : vC S2 = V := (f2.V (by decide)).trans hV
  have hlo2a : S2.1 1907 = nI lo := (f2.1 1907 (by decide)).trans hlo
  refine k_aload_n eX4_meanFit_6 rfl ?_
  refine k_iload_n eX4_meanFit_7 rfl ?_
  refine k_iload_n eX4_meanFit_8 rfl ?_
  refine cV1 (M' := MX4_readBrings) eX4_meanFit_9 mX4_126 wX4_readBrings vX4_readBrings ⟨_, _, _, rfl, rfl, rfl⟩ rfl (pX4_readBrings (S := S2) (V := V) (r := r) (n0 := dd + 1) hV2 hpl (by omega) (by omega) (to_of (by omega)) (fun _ => rfl)) (by decide) (Nat.le_of_ble_eq_true rfl) ?_
  refine k_istore_n (L2 := [_, _, _, _, _, _, _, _]) eX4_meanFit_12 (Nat.le_of_ble_eq_true rfl) rfl ?_
  refine k_lconst (v := 0) eX4_meanFit_13 rfl ?_
  refine k_lstore (L2 := [_, _, _, _, _, _, _, _]) eX4_meanFit_14 (Nat.le_of_ble_eq_true rfl) rfl ?_
  refine k_ldc eX4_meanFit_16 kX4_57 rfl ?_
  refine k_topi (nI 1000000) (by decide) ?_
  refine k_istore (L2 := [_, _, _, _, _, _, _, _]) eX4_meanFit_18 (Nat.le_of_ble_eq_true rfl) rfl ?_
  refine k_iconst (v := nI 0) eX4_meanFit_20 (by decide) ?_
  refine k_istore (L2 := [_, _, _, _, _, _, _, _]) eX4_meanFit_21 (Nat.le_of_ble_eq_true rfl) rfl ?_
  obtain ⟨U, hU⟩ : ∃ U, (sa S2 51 (fillN (bg V r (dd + 1)) ((S2).2.1 51) 120)) = U := ⟨_, rfl⟩
  have u49 : ∀ i, i < dd + 1 → U.2.1 49 i = nI (rsk V dn r T i) := by rw [← hU]; exact h49
  have u50 : ∀ i, i < dd + 2 → U.2.1 50 i = nI (whl V dn r T i) := by rw [← hU]; exact h50
  have u51 : ∀ i, i < 120 → U.2.1 51 i = bg V r (dd + 1) i := by
    rw [← hU, sa_at]
    intro i hi
    rw [fillN_at, if_pos hi]
  have ulo : U.1 1907 = nI lo := by rw [← hU]; exact hlo2a
  have uF : Frm [1953, 2103, 2253] [41, 44, 47, 48, 49, 50, 51] [] S U := by rw [← hU]; exact f2.sa (by decide) _
  rw [hU]
  refine lX4_meanFit (by decide) (V := V) (dn := dn) (r := r) (T := T) hdd2 ulo hlo2 u49 u50 u51 ?_ (dd + 1) 0 (by omega)
  refine k_lload eX4_meanFit_68 rfl ?_
  refine k_iload eX4_meanFit_70 rfl ?_
  refine k_i2l eX4_meanFit_72 ?_
  refine k_iload_n eX4_meanFit_73 rfl ?_
  refine k_i2l eX4_meanFit_74 ?_
  refine k_lmul eX4_meanFit_75 ?_
  refine k_ladd eX4_meanFit_76 ?_
  refine k_lstore (L2 := [_, _, _, _, _, _, _, _]) eX4_meanFit_77 (Nat.le_of_ble_eq_true rfl) rfl ?_
  refine k_lload eX4_meanFit_79 rfl ?_
  refine k_ldc2 eX4_meanFit_81 kX4_135 rfl ?_
  refine k_ldiv eX4_meanFit_84 (by decide) ?_
  refine k_l2i eX4_meanFit_85 ?_
  refine k_ireturn eX4_meanFit_86 rfl rfl ?_
  exact ⟨rfl, U, rfl, uF⟩
set_option maxHeartbeats 400000 in
theorem lX4_firstTooMuch {d0 : Nat} (hdd : 4 ≤ d0) {S0 : k_S} {V : k_V} (hV : vC S0 = V) {dn : Nat} (hdn : S0.1 1302 = nI dn) (hcd : CntOk V dn) (hpl : PlanOk V) {r : Nat} (hr : r < 5) {T : List Int32} (hT : TxOk S0 2101 43 T) : ∀ (k j : Nat) (S : k_S), j + k = 120 → (jdg V dn r T = fst0 (fun d => gv (nmV V dn r d) T false []) j (120 - j)) → (Frm [1953, 2103, 2253] [41, 44, 47, 48, 49, 50, 51] [] S0 S) → AW none MX4_firstTooMuch d0 0 0 2 [.ref 38, .int (nI r), .int (nI j)] [] (hp S) (Rx (some (.int (jdg V dn r T))) (fun S' => Frm [1953, 2103, 2253] [41, 44, 47, 48, 49, 50, 51] [] S0 S')) := by
  intro k
  induction k with
  | zero =>
    intro j S hj e0 f0
    have ej : j = 120 := by omega
    subst ej
    refine k_iload_n eX4_firstTooMuch_2 rfl ?_
    refine k_bipush (v := nI 120) eX4_firstTooMuch_3 (by decide) ?_
    refine k_icmp_geN 36 eX4_firstTooMuch_5 (by decide) (by omega) (by omega) (fun c_5 => ?_) (fun c_5 => by exfalso; omega)
    refine k_bipush (v := (-2)) eX4_firstTooMuch_36 (by decide) ?_
    refine k_ireturn eX4_firstTooMuch_38 rfl rfl ?_
    exact ⟨congrArg some (congrArg Value.int e0.symm), _, rfl, f0⟩
  | succ k ih =>
    intro j S hj e0 f0
    have hV1 : vC S = V := (f0.V (by decide)).trans hV
    have hdn1 : S.1 1302 = nI dn := (f0.1 1302 (by decide)).trans hdn
    refine k_iload_n eX4_firstTooMuch_2 rfl ?_
    refine k_bipush (v := nI 120) eX4_firstTooMuch_3 (by decide) ?_
    refine k_icmp_geN 36 eX4_firstTooMuch_5 (by decide) (by omega) (by omega) (fun c_5 => by exfalso; omega) (fun c_5 => ?_)
    refine k_aload_n eX4_firstTooMuch_8 rfl ?_
    refine k_iload_n eX4_firstTooMuch_9 rfl ?_
    refine k_iload_n eX4_firstTooMuch_10 rfl ?_
    refine cVX0 (v := .null) (M' := MX4_nameDay) eX4_firstTooMuch_11 mX4_58 wX4_nameDay vX4_nameDay ⟨_, _, _, rfl, rfl, rfl⟩ rfl (pX4_nameDay (S := S) (V := V) (dn := dn) (r := r) (dd := j) hV1 hdn1 hcd hpl (by omega) (by omega)) (by omega) (Nat.le_of_ble_eq_true rfl) ?_
    rintro S2 ⟨hn2, f2⟩
    have hT2 : TxOk S2 2101 43 T := (hT.fr f0 (by decide) (by decide)).fr f2 (by decide) (by decide)
    refine k_aload_n eX4_firstTooMuch_14 rfl ?_
    refine GX4_18 eX4_firstTooMuch_15 rfl ?_
    refine k_aload_n eX4_firstTooMuch_18 rfl ?_
    refine GX4_28 eX4_firstTooMuch_19 rfl ?_
    refine cVX1 (M' := MX9_given) eX4_firstTooMuch_22 mX4_62 wX9_given vX9_given ⟨_, _, _, rfl, rfl, rfl⟩ rfl (gX9_42 (S := S2) hT2) (by omega) (Nat.le_of_ble_eq_true rfl) ?_
    intro S3 f3
    refine k_topi ((gv (nmV V dn r j) T false [])) (gv_congr hn2 T false []) ?_
    have g23 : Frm [1953, 2103, 2253] [41, 44, 47, 48, 49, 50, 51] [] S0 S3 := (f0.tr (f2.wk (by decide) (by decide) (by decide))).tr (f3.wk (by decide) (by decide) (by decide))
    refine k_if_eq 30 eX4_firstTooMuch_25 (by decide) (fun c_25 => ?_) (fun c_25 => ?_)
    · refine k_iincN (g := 1) (a := j) (L2 := [_, _, _]) eX4_firstTooMuch_30 (Nat.le_of_ble_eq_true rfl) rfl rfl ?_
      refine k_goto 2 eX4_firstTooMuch_33 (by decide) ?_
      exact ih (j + 1) _ (by omega) (by rw [e0, show 120 - j = (120 - (j + 1)) + 1 by omega, fst0, if_pos (show gv (nmV V dn r j) T false [] = 0 by first | exact c_25 | exact Decidable.not_not.mp c_25)]) g23
    refine k_iload_n eX4_firstTooMuch_28 rfl ?_
    refine k_ireturn eX4_firstTooMuch_29 rfl rfl ?_
    exact ⟨by rw [e0, show 120 - j = (120 - (j + 1)) + 1 by omega, fst0, if_neg (show ¬ gv (nmV V dn r j) T false [] = 0 from c_25)], _, rfl, g23⟩
set_option maxHeartbeats 400000 in
theorem pX4_firstTooMuch {S : k_S} {V : k_V} (hV : vC S = V) {dn : Nat} (hdn : S.1 1302 = nI dn) (hcd : CntOk V dn) (hpl : PlanOk V) {r : Nat} (hr : r < 5) {T : List Int32} (hT : TxOk S 2101 43 T) : Sp 4 0 0 MX4_firstTooMuch [.ref 38, .int (nI r)] (hp S) (Rx (some (.int (jdg V dn r T))) (fun S' => Frm [1953, 2103, 2253] [41, 44, 47, 48, 49, 50, 51] [] S S')) := by
  refine Sp_of (by decide +kernel) (Nat.le_of_ble_eq_true rfl) ?_
  show AW none MX4_firstTooMuch 4 0 0 0 [.ref 38, .int (nI r), .null] [] (hp S) _
  refine k_iconst (v := nI 0) eX4_firstTooMuch_0 (by decide) ?_
  refine k_istore_n (L2 := [_, _, _]) eX4_firstTooMuch_1 (Nat.le_of_ble_eq_true rfl) rfl ?_
  exact lX4_firstTooMuch (by decide) hV hdn hcd hpl hr hT 120 0 S (by omega) rfl (Frm.rf S)
set_option maxHeartbeats 400000 in
theorem pX4_felt {S : k_S} {V : k_V} (hV : vC S = V) {dn : Nat} (hdn : S.1 1302 = nI dn) (hcd : CntOk V dn) (hpl : PlanOk V) {r dd : Nat} (hr : r < 5) (hdd2 : dd < 120) {T : List Int32} (hT : TxOk S 2251 46 T) : Sp 4 0 0 MX4_felt [.ref 38, .int (nI r), .int (nI dd)] (hp S) (Rx (some (.int (gv (nmA V dn r dd) T false []))) (fun S' => Frm [1953, 2103, 2253] [41, 44, 47, 48, 49, 50, 51] [] S S')) := by
  refine Sp_of (by decide +kernel) (Nat.le_of_ble_eq_true rfl) ?_
  show AW none MX4_felt 4 0 0 0 [.ref 38, .int (nI r), .int (nI dd)] [] (hp S) _
  refine k_aload_n eX4_felt_0 rfl ?_
  refine k_iload_n eX4_felt_1 rfl ?_
  refine k_iload_n eX4_felt_2 rfl ?_
  refine cVX0 (v := .null) (M' := MX4_nameDayAhead) eX4_felt_3 mX4_137 wX4_nameDayAhead vX4_nameDayAhead ⟨_, _, _, rfl, rfl, rfl⟩ rfl (pX4_nameDayAhead (S := S) (V := V) (dn := dn) (r := r) (dd := dd) hV hdn hcd hpl (by omega) (by omega)) (by decide) (Nat.le_of_ble_eq_true rfl) ?_
  rintro S2 ⟨hn2, f2⟩
  have hT2 : TxOk S2 2251 46 T := hT.fr f2 (by decide) (by decide)
  refine k_aload_n eX4_felt_6 rfl ?_
  refine GX4_21 eX4_felt_7 rfl ?_
  refine k_aload_n eX4_felt_10 rfl ?_
  refine GX4_28 eX4_felt_11 rfl ?_
  refine cVX1 (M' := MX9_given) eX4_felt_14 mX4_62 wX9_given vX9_given ⟨_, _, _, rfl, rfl, rfl⟩ rfl (gX9_45 (S := S2) hT2) (by decide) (Nat.le_of_ble_eq_true rfl) ?_
  intro S3 f3
  refine k_topi ((gv (nmA V dn r dd) T false [])) (gv_congr hn2 T false []) ?_
  refine k_ireturn eX4_felt_17 rfl rfl ?_
  exact ⟨rfl, _, rfl, (f2.wk (by decide) (by decide) (by decide)).tr (f3.wk (by decide) (by decide) (by decide))⟩
