section LS
variable (Ns : Nat) (xs : Nat → Int32)
def strL (r w k : Nat) : Int32 := nI (stN Ns xs w) * nI (giN Ns xs r) / nI 1000 * lft (nI (slN Ns xs r)) k
def tirL (r w k : Nat) : Int32 := nI (tiN Ns xs w) * lft (nI (faN Ns xs r)) k
/-- the sums as the law makes them: k days back from day d -/
def sBk (P : Nat → Nat) (r d : Nat) : Nat → Int32 := sumN (fun k => if P (d - k) = 0 then nI 0 else strL Ns xs r (P (d - k)) k)
def tBk (P : Nat → Nat) (r d : Nat) : Nat → Int32 := sumN (fun k => if P (d - k) = 0 then nI 0 else tirL Ns xs r (P (d - k)) k)
def ldL (P : Nat → Nat) (r day : Nat) : Nat → Int32 × Int32
  | 0 => (-2, nI 0)
  | n + 1 => if (ldL P r day n).2 < ptL Ns xs r (P n) (day - n) then (nI n, ptL Ns xs r (P n) (day - n)) else ldL P r day n
/-- what the law lives by: the state has 4 works, 2 runners, this plan -/
def LF (S : k_S) (P : Nat → Nat) : Prop := S.1 803 = nI 4 ∧ S.1 1003 = nI 2 ∧ (∀ r w k, r < 2 → w < 4 → k < 120 → str (vC S) r w k = strL Ns xs r w k ∧ tir (vC S) r w k = tirL Ns xs r w k) ∧ (∀ d, d < 120 → S.2.1 25 d = nI (P d)) ∧ ∀ d, P d ≤ 3
end LS
theorem pts_L {Ns : Nat} {xs : Nat → Int32} {S : k_S} {P : Nat → Nat} (h : LF Ns xs S P) {r w k : Nat} (hr : r < 2) (hw : w < 4) (hk : k < 120) : pts (vC S) r w k = ptL Ns xs r w k := by
  obtain ⟨e1, e2⟩ := h.2.2.1 r w k hr hw hk
  rw [pts, e1, e2]; rfl
theorem pl_tail (Ns : Nat) (xs : Nat → Int32) (d : Nat) : (if d < 40 then plN Ns xs d else 0) = plN Ns xs d := by
  by_cases h : d < 40
  · rw [if_pos h]
  · rw [if_neg h, plN, if_pos (by omega)]
theorem lf_of {Ns : Nat} {xs : Nat → Int32} {S : k_S} (h : Bd Ns xs S 4 2 40) : LF Ns xs S (plN Ns xs) := by
  obtain ⟨⟨a1, a2⟩, ⟨b1, b2⟩, c1, _⟩ := h
  refine ⟨a1, b1, fun r w k hr hw hk => ?_, fun d hd => by rw [c1 d hd, pl_tail], b_pl Ns xs⟩
  obtain ⟨e1, e2⟩ := a2 w hw
  obtain ⟨e3, e4⟩ := b2 r hr
  obtain ⟨e5, e6⟩ := e4 k hk
  constructor
  · show S.2.1 18 w * S.2.1 21 r / nI 1000 * S.2.1 23 (r * 120 + k) = _
    rw [e2, e3, e6]; rfl
  · show S.2.1 17 w * S.2.1 22 (r * 120 + k) = _
    rw [e1, e5]; rfl
theorem LF.pl {Ns : Nat} {xs : Nat → Int32} {S : k_S} {P : Nat → Nat} (h : LF Ns xs S P) : PlanOk (vC S) ∧ ∀ d, d < 120 → pw (vC S) d = P d := by
  have e : ∀ d, d < 120 → pw (vC S) d = P d := fun d hd => by
    have q := h.2.2.2.1 d hd
    have q2 := h.2.2.2.2 d
    show ix (S.2.1 25 d) = P d
    rw [q, ix_nI (by omega)]
  refine ⟨fun d hd => ?_, e⟩
  have q2 := h.2.2.2.2 d
  rw [e d hd]
  exact ⟨h.2.2.2.1 d hd, by omega⟩
theorem sumN_c {f g : Nat → Int32} : ∀ n, (∀ j, j < n → f j = g j) → sumN f n = sumN g n
  | 0, _ => rfl
  | n + 1, h => by rw [sumN, sumN, sumN_c n (fun j hj => h j (by omega)), h n (by omega)]
theorem sumN_f (f : Nat → Int32) : ∀ n, sumN f (n + 1) = f 0 + sumN (fun j => f (j + 1)) n
  | 0 => by
    show nI 0 + f 0 = f 0 + nI 0
    exact Int32.add_comm _ _
  | n + 1 => by rw [sumN, sumN_f f n, sumN, Int32.add_assoc]
theorem sumN_r : ∀ (n : Nat) (f : Nat → Int32), sumN f n = sumN (fun j => f (n - 1 - j)) n
  | 0, _ => rfl
  | n + 1, f => by
    rw [sumN_f (fun j => f (n + 1 - 1 - j)) n, sumN, sumN_r n f, Int32.add_comm]
    congr 1
    exact sumN_c n (fun j hj => by show f (n - 1 - j) = f (n + 1 - 1 - (j + 1)); congr 1; omega)
theorem sSum_L {Ns : Nat} {xs : Nat → Int32} {S : k_S} {P : Nat → Nat} (h : LF Ns xs S P) {r d : Nat} (hr : r < 2) (hd : d < 120) : sSum (vC S) r d (d + 1) = sBk Ns xs P r d (d + 1) := by
  rw [sSum, sumN_r, sBk]
  refine sumN_c _ (fun j hj => ?_)
  have e := h.pl.2 (d + 1 - 1 - j) (by omega)
  have q := h.2.2.2.2 (d - j)
  show (if pw (vC S) (d + 1 - 1 - j) = 0 then nI 0 else str (vC S) r (pw (vC S) (d + 1 - 1 - j)) (d - (d + 1 - 1 - j))) = _
  rw [e, show d + 1 - 1 - j = d - j by omega, show d - (d - j) = j by omega, (h.2.2.1 r (P (d - j)) j hr (by omega) (by omega)).1]
theorem tSum_L {Ns : Nat} {xs : Nat → Int32} {S : k_S} {P : Nat → Nat} (h : LF Ns xs S P) {r d : Nat} (hr : r < 2) (hd : d < 120) : tSum (vC S) r d (d + 1) = tBk Ns xs P r d (d + 1) := by
  rw [tSum, sumN_r, tBk]
  refine sumN_c _ (fun j hj => ?_)
  have e := h.pl.2 (d + 1 - 1 - j) (by omega)
  have q := h.2.2.2.2 (d - j)
  show (if pw (vC S) (d + 1 - 1 - j) = 0 then nI 0 else tir (vC S) r (pw (vC S) (d + 1 - 1 - j)) (d - (d + 1 - 1 - j))) = _
  rw [e, show d + 1 - 1 - j = d - j by omega, show d - (d - j) = j by omega, (h.2.2.1 r (P (d - j)) j hr (by omega) (by omega)).2]
theorem fitv_L {Ns : Nat} {xs : Nat → Int32} {S : k_S} {P : Nat → Nat} (h : LF Ns xs S P) {r d : Nat} (hr : r < 2) (hd : d < 120) : fitv (vC S) r d = sBk Ns xs P r d (d + 1) - tBk Ns xs P r d (d + 1) := by
  rw [fitv, sSum_L h hr hd, tSum_L h hr hd]
theorem ld_L {Ns : Nat} {xs : Nat → Int32} {S : k_S} {P : Nat → Nat} (h : LF Ns xs S P) {r d : Nat} (hr : r < 2) (hd : d < 120) : ∀ n, n ≤ d + 1 → ld (vC S) r d n = ldL Ns xs P r d n
  | 0, _ => rfl
  | n + 1, hn => by
    have q := h.2.2.2.2 n
    rw [ld, ldL, ld_L h hr hd n (by omega), h.pl.2 n (by omega), pts_L h hr (by omega) (by omega)]
/-- what the class answers, to runner r on day d -/
theorem rd_ok {S : k_S} (h : S.1 1003 = nI 2) {r d : Nat} (hr : r < 2) (hd : d < 120) : pRD (S.1 1003) (nI (1000 * r + d)) ∧ rrN (nI (1000 * r + d)) = r ∧ ddN (nI (1000 * r + d)) = d := by
  have e1 : (1000 * r + d) / 1000 = r := by omega
  have e2 : (1000 * r + d) % 1000 = d := by omega
  refine ⟨⟨nI_pos (by omega), ?_, ?_⟩, by rw [rrN_nI (by omega), e1], by rw [ddN_nI (by omega), e2]⟩
  · rw [(dm_nI (by omega)).1, e1, h]; exact (pW_N (by omega) (by decide)).mpr hr
  · rw [(dm_nI (by omega)).2, e2]; exact (pD_N (by omega)).mpr hd
theorem aFit_1 {Ns : Nat} {xs : Nat → Int32} {S : k_S} {P : Nat → Nat} (h : LF Ns xs S P) {r d : Nat} (hr : r < 2) (hd : d < 120) : aFit (vC S) (S.1 1003) (nI (1000 * r + d)) (nI 1) = sBk Ns xs P r d (d + 1) := by
  obtain ⟨a, b, c⟩ := rd_ok h.2.1 hr hd
  rw [aFit, if_pos ⟨a, by decide⟩, if_neg (by decide), if_pos rfl, b, c, sSum_L h hr hd]
theorem aFit_2 {Ns : Nat} {xs : Nat → Int32} {S : k_S} {P : Nat → Nat} (h : LF Ns xs S P) {r d : Nat} (hr : r < 2) (hd : d < 120) : aFit (vC S) (S.1 1003) (nI (1000 * r + d)) (nI 2) = tBk Ns xs P r d (d + 1) := by
  obtain ⟨a, b, c⟩ := rd_ok h.2.1 hr hd
  rw [aFit, if_pos ⟨a, by decide⟩, if_neg (by decide), if_neg (by decide), b, c, tSum_L h hr hd]
theorem aFit_0 {S : k_S} (h : S.1 1003 = nI 2) {r d : Nat} (hr : r < 2) (hd : d < 120) : aFit (vC S) (S.1 1003) (nI (1000 * r + d)) (nI 0) = fitv (vC S) r d := by
  obtain ⟨a, b, c⟩ := rd_ok h hr hd
  rw [aFit, if_pos ⟨a, by decide⟩, if_pos (show nI 0 = 0 from rfl), b, c]
theorem aLed_L {Ns : Nat} {xs : Nat → Int32} {S : k_S} {P : Nat → Nat} (h : LF Ns xs S P) {r d : Nat} (hr : r < 2) (hd : d < 120) : aLed (vC S) (S.1 1003) (nI (1000 * r + d)) = (ldL Ns xs P r d (d + 1)).1 := by
  obtain ⟨a, b, c⟩ := rd_ok h.2.1 hr hd
  rw [aLed, if_pos a, b, c, ld_L h hr hd (d + 1) (Nat.le_refl _)]
theorem aPts_L {Ns : Nat} {xs : Nat → Int32} {S : k_S} {P : Nat → Nat} (h : LF Ns xs S P) {r w k : Nat} (hr : r < 2) (hw : w < 4) (hk : k < 120) : aPts (vC S) (S.1 1003) (S.1 803) (nI r) (nI w) (nI k) = ptL Ns xs r w k := by
  rw [aPts, if_pos ⟨by rw [h.2.1]; exact (pW_N (by omega) (by decide)).mpr hr, by rw [h.1]; exact (pW_N (by omega) (by decide)).mpr hw, (pD_N (by omega)).mpr hk⟩, ix_nI (by omega), ix_nI (by omega), ix_nI (by omega), pts_L h hr hw hk]
theorem aOf_L {Ns : Nat} {xs : Nat → Int32} {S : k_S} {P : Nat → Nat} (h : LF Ns xs S P) {d : Nat} (hd : d < 120) : aOf (vC S) (nI d) = nI (P d) := by
  rw [aOf, if_pos ((pD_N (by omega)).mpr hd), ix_nI (by omega)]
  exact h.2.2.2.1 d hd
theorem aAlk_L {S : k_S} (h : S.1 1003 = nI 2) : aAlk (vC S) (S.1 1003) (nI 1) = nI (alN (vC S) 0 1 120) ∧ aAlk (vC S) (S.1 1003) (nI 10) = nI (alN (vC S) 1 0 120) := by
  have e1 : nI 1 / nI 10 = nI 0 := by decide
  have e2 : rm (nI 1) (nI 10) = nI 1 := by decide
  have e3 : nI 10 / nI 10 = nI 1 := by decide
  have e4 : rm (nI 10) (nI 10) = nI 0 := by decide
  rw [h]
  constructor
  · rw [aAlk, if_pos (by decide), e1, e2, ix_nI (by decide), ix_nI (by decide)]
  · rw [aAlk, if_pos (by decide), e3, e4, ix_nI (by decide), ix_nI (by decide)]

