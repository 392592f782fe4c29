theorem sumN_add (f : Nat → Int32) (a : Nat) : ∀ k, sumN f (a + k) = sumN f a + sumN (fun i => f (a + i)) k
  | 0 => (Int32.add_zero _).symm
  | k + 1 => by
    show sumN f (a + k) + f (a + k) = sumN f a + (sumN (fun i => f (a + i)) k + f (a + k))
    rw [sumN_add f a k, Int32.add_assoc]
theorem sumN_z {f : Nat → Int32} : ∀ n, (∀ i, i < n → f i = nI 0) → sumN f n = nI 0
  | 0, _ => rfl
  | n + 1, h => by rw [sumN_s, sumN_z n (fun i hi => h i (by omega)), h n (by omega)]; rfl
/-- a stretch taken out of a sum -/
theorem sumN_cut {f g : Nat → Int32} {a n N : Nat} (h : ∀ j, g j = if a ≤ j ∧ j < a + n then nI 0 else f j) (hN : a + n ≤ N) : sumN g N = sumN f N - sumN (fun k => f (a + k)) n := by
  obtain ⟨m, rfl⟩ : ∃ m, N = a + n + m := ⟨N - (a + n), by omega⟩
  rw [sumN_add g, sumN_add g, sumN_add f (a + n), sumN_add f a]
  have e1 : sumN g a = sumN f a := sumN_congr a (fun i hi => by rw [h, if_neg (by omega)])
  have e2 : sumN (fun i => g (a + i)) n = nI 0 := sumN_z n (fun i hi => by show g (a + i) = _; rw [h, if_pos (by omega)])
  have e3 : sumN (fun i => g (a + n + i)) m = sumN (fun i => f (a + n + i)) m := sumN_congr m (fun i hi => by show g (a + n + i) = _; rw [h, if_neg (by omega)])
  rw [e1, e2, e3]
  generalize sumN f a = x; generalize sumN (fun i => f (a + i)) n = y; generalize sumN (fun i => f (a + n + i)) m = z
  show x + 0 + z = x + y + z - y
  grind
theorem fitv_bg {V : k_V} (h : RstOk V) (r : Nat) {day : Nat} (hd : day < 120) : fitv V r day = sumN (bg V r (day + 1)) 120 := by
  have e1 : fitv V r day = sumN (bg V r (day + 1)) (day + 1) := by
    rw [fitv, sSum, tSum, ← sumN_sub]
    refine sumN_congr _ (fun i hi => ?_)
    rw [bg, if_pos hi, show day + 1 - 1 - i = day - i by omega]
    by_cases c : pw V i = 0
    · rw [if_pos c, if_pos c, c, pts_0 h]; rfl
    · rw [if_neg c, if_neg c]; rfl
  rw [e1]
  have e2 := sumN_add (bg V r (day + 1)) (day + 1) (120 - (day + 1))
  rw [show day + 1 + (120 - (day + 1)) = 120 by omega] at e2
  rw [e2, sumN_z (f := fun i => bg V r (day + 1) (day + 1 + i)) _ (fun i hi => by show bg V r (day + 1) (day + 1 + i) = _; rw [bg, if_neg (by omega)])]
  exact (Int32.add_zero _).symm
theorem bg_rs {V : k_V} (h : RstOk V) (r n0 a n j : Nat) : bg (vP V (rsP (V 6) a n)) r n0 j = if a ≤ j ∧ j < a + n then nI 0 else bg V r n0 j := by
  have e : pw (vP V (rsP (V 6) a n)) j = if a ≤ j ∧ j < a + n then 0 else pw V j := by
    unfold pw
    rw [vP_6, rsP_at]
    by_cases c : a ≤ j ∧ j < a + n
    · rw [if_pos c, if_pos c]; rfl
    · rw [if_neg c, if_neg c]
  rw [bg, e]
  by_cases c : a ≤ j ∧ j < a + n
  · rw [if_pos c, if_pos c]
    by_cases c2 : j < n0
    · rw [if_pos c2]; exact pts_0 h r _
    · rw [if_neg c2]
  · rw [if_neg c, if_neg c]; rfl
theorem fitR_eq {V : k_V} (h : RstOk V) (r lo : Nat) {day d : Nat} (hd : day < 120) (hd2 : d < 120) : fitR V r day lo d = sumN (bg V r (day + 1)) 120 - lsB (bg V r (day + 1)) lo d := by
  rw [fitR, fitv_bg (V := vP V (rsP (V 6) (d + 1) (min lo (120 - (d + 1))))) h r hd, sumN_cut (bg_rs h r (day + 1) (d + 1) (min lo (120 - (d + 1)))) (by omega), lsB, show 120 - (d + 1) = 119 - d by omega]
theorem mtg_eq {V : k_V} (h : RstOk V) (dn r lo : Nat) (T : List Int32) {day : Nat} (hd : day < 120) : ∀ n, n ≤ 120 → mtg V dn r T lo day n = tgt V dn r T (bg V r (day + 1)) lo (sumN (bg V r (day + 1)) 120) n
  | 0, _ => rfl
  | n + 1, hn => by
    rw [mtg_s, mtg_eq h dn r lo T hd n (by omega), fitR_eq h r lo hd (by omega)]; rfl
theorem tgt_up {V : k_V} (dn r lo : Nat) (T : List Int32) (day : Nat) : ∀ k, day + 1 + k ≤ 120 → tgt V dn r T (bg V r (day + 1)) lo (sumN (bg V r (day + 1)) 120) (day + 1 + k) + jN (nev V dn r T (day + 1 + k)) * (sumN (bg V r (day + 1)) 120).toInt64 = tgt V dn r T (bg V r (day + 1)) lo (sumN (bg V r (day + 1)) 120) (day + 1) + jN (nev V dn r T (day + 1)) * (sumN (bg V r (day + 1)) 120).toInt64
  | 0, _ => rfl
  | k + 1, hk => by
    rw [← tgt_up dn r lo T day k (by omega)]
    have el : lsB (bg V r (day + 1)) lo (day + 1 + k) = nI 0 := sumN_z _ (fun i hi => by show bg V r (day + 1) (day + 1 + k + 1 + i) = _; rw [bg, if_neg (by omega)])
    show tgt V dn r T (bg V r (day + 1)) lo (sumN (bg V r (day + 1)) 120) (day + 1 + k) + jN (fsO V dn r T (day + 1 + k)) * (sumN (bg V r (day + 1)) 120 - lsB (bg V r (day + 1)) lo (day + 1 + k)).toInt64 + jN (nev V dn r T (day + 1 + k) - fsO V dn r T (day + 1 + k)) * (sumN (bg V r (day + 1)) 120).toInt64 = _
    have h1 := whl_s V dn r T (day + 1 + k)
    have h2 := nev_ge V dn r T (day + 1 + k)
    rw [el, show ∀ x : Int32, x - nI 0 = x from fun x => Int32.sub_zero x, ← jN_sub (show nev V dn r T (day + 1 + k) < 2 ^ 31 by omega) (show fsO V dn r T (day + 1 + k) ≤ nev V dn r T (day + 1 + k) by omega)]
    generalize tgt V dn r T (bg V r (day + 1)) lo (sumN (bg V r (day + 1)) 120) (day + 1 + k) = x
    generalize jN (fsO V dn r T (day + 1 + k)) = y
    generalize jN (nev V dn r T (day + 1 + k)) = z
    generalize (sumN (bg V r (day + 1)) 120).toInt64 = t
    grind
theorem mMeaF_eq {V : k_V} (h : RstOk V) (dn r lo : Nat) (T : List Int32) {day : Nat} (hd : day < 120) : mMeaF V dn r T lo day = mnF V dn r T lo day := by
  rw [mMeaF, mnF, mtg_eq h dn r lo T hd 120 (Nat.le_refl _), fitv_bg h r hd]
  have q := tgt_up (V := V) dn r lo T day (120 - (day + 1)) (by omega)
  rw [show day + 1 + (120 - (day + 1)) = 120 by omega] at q
  rw [q]; rfl
theorem aMMea_eq {V : k_V} (h : RstOk V) (dn lo : Nat) (T : List Int32) {rn : Nat} (h5 : rn ≤ 5) (x : Int32) : aMMea V dn T lo (nI rn) x = aMea V dn T lo (nI rn) x := by
  rw [aMMea, aMea]
  by_cases c : pRD (nI rn) x
  · rw [if_pos c, if_pos c]
    obtain ⟨z, hz, rfl, hz1, hz2⟩ := pRD_ex c rfl (by omega)
    rw [ddN_nI hz]; exact mMeaF_eq h dn _ lo T hz2
  · rw [if_neg c, if_neg c]
theorem bo_mean {S : k_S} (h : RRx S) (x : Int32) : Both MX11_mean MX12_mean [.int x] S := by
  have h0 := h
  obtain ⟨wk, rn, dn, tp, T0, T1, T2, lo, tn, nd, nu, kn, ra, h⟩ := h
  have b := h.b1
  have qc := pX11_mean (S := S) (V := vC S) rfl b.dnC b.cnt b.pln b.rnC b.rn5 h.b3.c0 h.b4.loC h.b4.lo60 x
  rw [b.rnC] at qc
  refine both_x (dc := 6) (dm := 6) h0 (by decide) (by decide) (Rx.x qc (by decide) (by decide) (by decide)) (fun S1 f1 => ?_)
  have b1 := b.fr f1 (by decide) (by decide) (by decide)
  have eV : vC S1 = vC S := f1.V (by decide)
  have qm := pX12_mean (S := S1) (V := vC S1) b1.hV.symm b1.dnM b1.cnt b1.pln b1.rnM b1.rn5 (h.b3.m0.fr f1 (by decide) (by decide)) ((f1.1 2618 (by decide)).trans h.b4.loM) h.b4.lo60 x
  rw [b1.rnM, aMMea_eq b1.rst _ _ _ b.rn5 x, eV] at qm
  exact Rx.x qm (by decide) (by decide) (by decide)
