/-- the law, under whatever name -/
abbrev Mn (nm : String) : k_M := (⟨RL, nm, "([I)Z"⟩, code, 4, ret)
theorem b1_00 : B1 S00 1 0 0 := by
  refine ⟨hV_of rfl rfl rfl rfl rfl rfl rfl rfl rfl, rfl, rfl, by decide, by decide, rfl, rfl, by decide, rfl, rfl, ⟨by decide, fun c hc => absurd hc (by omega)⟩, fun d hd => ⟨rfl, ?_⟩, ⟨rfl, rfl⟩, fun w hw => ⟨0, 0, by decide, by decide, rfl, rfl⟩, fun r hr => ⟨0, by decide, rfl⟩, fun i hi => ⟨0, 0, by decide, by decide, rfl, rfl⟩⟩
  show ix 0 < 6
  decide
theorem b8_00 : B8 S00 0 := by
  intro j hj
  left
  rcases (by omega : j = 0 ∨ j = 1 ∨ j = 2 ∨ j = 3 ∨ j = 4 ∨ j = 5) with rfl | rfl | rfl | rfl | rfl | rfl <;> exact ⟨rfl, rfl⟩
theorem rr_00 : RRx S00 := by
  refine ⟨1, 0, 0, 0, [], [], [], 14, 0, 0, 0, 0, 0, b1_00, ⟨rfl, rfl, rfl, by decide⟩, ⟨⟨0, rfl, by decide, rfl, rfl⟩, ⟨0, rfl, by decide, rfl, rfl⟩, ⟨0, rfl, by decide, rfl, rfl⟩, ⟨rfl, by decide, trivial, rfl, trivial⟩, ⟨rfl, by decide, trivial, rfl, trivial⟩, ⟨rfl, by decide, trivial, rfl, trivial⟩⟩, ⟨rfl, rfl, by decide, by decide⟩, ⟨⟨rfl, by decide, fun i hi => absurd hi (by omega)⟩, ⟨rfl, by decide, fun i hi => absurd hi (by omega)⟩, rfl, rfl, fun i hi => absurd hi (by omega)⟩, ⟨rfl, rfl, rfl, rfl, by decide, rfl, rfl, fun k hk => absurd hk (by omega)⟩, ⟨⟨rfl, by decide, fun i hi => absurd hi (by omega)⟩, ⟨rfl, by decide, fun i hi => absurd hi (by omega)⟩, rfl, rfl, rfl, by decide, rfl⟩, b8_00⟩
/-- one call of both, an int told; a long told -/
theorem bothI {Mc Mm : k_M} {args : List Value} {S : k_S} (hM : Mc.2.2.2 = some .int) (h : Both Mc Mm args S) : ∃ (dc dm : Nat) (Q : Int32 → k_S → Prop), dc ≤ 90 ∧ dm ≤ 90 ∧ Sp dc 0 0 Mc (.ref 0 :: args) (hp S) (fun r h' => ∃ v S', r = some (.int v) ∧ h' = hp S' ∧ Q v S') ∧ ∀ v S1, Q v S1 → Sp dm 0 0 Mm (.ref 52 :: args) (hp S1) (fun r h' => ∃ v2 S2, r = some (.int v2) ∧ h' = hp S2 ∧ (v2 = v ∧ RRx S2)) := by
  obtain ⟨dc, dm, Q, h1, h2, hc, hm⟩ := h
  refine ⟨dc, dm, fun v S1 => Q (.int v) S1, h1, h2, hc.mono ?_, fun v S1 hQ => (hm _ S1 hQ).mono ?_⟩
  · rintro r h' ⟨v, S1, rfl, rfl, hv, hQ⟩
    rw [hM] at hv
    cases v <;> first | exact hv.elim | exact ⟨_, S1, rfl, rfl, hQ⟩
  · rintro r h' ⟨S2, rfl, rfl, hR⟩
    exact ⟨v, S2, rfl, rfl, rfl, hR⟩
theorem bothJ {Mc Mm : k_M} {args : List Value} {S : k_S} (hM : Mc.2.2.2 = some .long) (h : Both Mc Mm args S) : ∃ (dc dm : Nat) (Q : Int64 → k_S → Prop), dc ≤ 90 ∧ dm ≤ 90 ∧ Sp dc 0 0 Mc (.ref 0 :: args) (hp S) (fun r h' => ∃ v S', r = some (.long v) ∧ h' = hp S' ∧ Q v S') ∧ ∀ v S1, Q v S1 → Sp dm 0 0 Mm (.ref 52 :: args) (hp S1) (fun r h' => ∃ v2 S2, r = some (.long v2) ∧ h' = hp S2 ∧ (v2 = v ∧ RRx S2)) := by
  obtain ⟨dc, dm, Q, h1, h2, hc, hm⟩ := h
  refine ⟨dc, dm, fun v S1 => Q (.long v) S1, h1, h2, hc.mono ?_, fun v S1 hQ => (hm _ S1 hQ).mono ?_⟩
  · rintro r h' ⟨v, S1, rfl, rfl, hv, hQ⟩
    rw [hM] at hv
    cases v <;> first | exact hv.elim | exact ⟨_, S1, rfl, rfl, hQ⟩
  · rintro r h' ⟨S2, rfl, rfl, hR⟩
    exact ⟨v, S2, rfl, rfl, rfl, hR⟩
section KJ
variable {X : k_X} {M : k_M} {d bc bs pc n : Nat} {L st : List Value} {h : k_H} {Po : Option Value → k_H → Prop}
theorem cVE1J {M' : k_M} {d' na ix a : Nat} {As rest : List Value} {Q : Int64 → k_S → Prop} (hd : k_dc M pc (.invokevirtual ix) 3 n) (hl : Cond.methodLink M.1.cls ix M'.1 ∈ k_tG) (hw : k_mw M' na) (hw2 : Cond.instanceMethod M'.1 ∈ k_tG ∧ Cond.selects M'.1.cls M'.1 M'.1 ∈ k_tG) (hrc : ∃ (ci : Nat) (fs : List Value) (q : vw_C), h[a]? = some (.inr (ci, fs)) ∧ vwCl[ci]? = some q ∧ q.1 = M'.1.cls) (hpq : k_popn (na + 1) st [] = some (.ref a :: As, rest)) (hsp : Sp d' 0 0 M' (.ref a :: As) h (fun r h' => ∃ v S', r = some (.long v) ∧ h' = hp S' ∧ Q v S')) (hdd : d' < d) (hct : (rest.map fun v => v.category).sum ≤ 8) (k : ∀ v S', Q v S' → AW X M d bc bs n L (.long v :: rest) (hp S') Po) : AW X M d bc bs pc L st h Po := by
  obtain ⟨ci, fs, q, hq1, hq2, hq3⟩ := hrc
  refine k_callV hd hl hw hw2 ⟨hq1, q, hq2, hq3⟩ hpq hsp hdd ⟨(Nat.zero_add _).symm, (Nat.zero_add _).symm⟩ hct ?_
  rintro r h' ⟨v, S', rfl, rfl, hQ⟩
  exact k v S' hQ
/-- an int of the script -/
theorem k_scr {N : Nat} {xs : Nat → Int32} {j : Nat} (hd : k_dc M pc .iaload 1 n) (hj : j < N) (hN : N ≤ 3072) (k : AW (some (N, xs)) M d bc bs n L (.int (xs j) :: st) h Po) : AW (some (N, xs)) M d bc bs pc L (.int (nI j) :: .retAddr 0 :: st) h Po := by
  have e : (nI j).toNatClampNeg = j := ix_nI (by omega)
  refine k_ialdT hd (fun q => by cases q) ?_ ?_
  · rintro (q | q)
    · exact nI_pos (by omega) q
    · rw [e] at q
      have q2 : N ≤ j := q
      omega
  · rw [e]; exact k
end KJ
theorem and63 (w : Int32) : ∃ k, k < 64 ∧ w &&& nI 63 = nI k := by
  refine ⟨(w &&& nI 63).toBitVec.toNat, ?_, ?_⟩
  · rw [Int32.toBitVec_and, BitVec.toNat_and]
    exact Nat.lt_of_le_of_lt Nat.and_le_right (by decide)
  · exact Int32.toBitVec_inj.mp (BitVec.eq_of_toNat_eq (by
      show _ = (BitVec.ofNat 32 (w &&& nI 63).toBitVec.toNat).toNat
      rw [BitVec.toNat_ofNat, Nat.mod_eq_of_lt (BitVec.isLt _)]))
theorem lw_c220 {nm : String} {L : Nat} {xs : Nat → Int32} {j : Nat} {S : k_S} {Po : Option Value → k_H → Prop} (hj : j + 6 ≤ L) (hL : L ≤ 3072) (h : RRx S) (kx : ∀ S2, RRx S2 → AW (some (L, xs)) (Mn nm) 100 0 0 1610 [.retAddr 0, .ref 0, .ref 52, .int (nI j)] [] (hp S2) Po) : AW (some (L, xs)) (Mn nm) 100 0 0 220 [.retAddr 0, .ref 0, .ref 52, .int (nI j)] [] (hp S) Po := by
  obtain ⟨dc, dm, Q, h1, h2, hc, hm⟩ := bothI rfl (bo_work h (xs (j + 1)))
  refine k_aload_n eL_law_220 rfl ?_
  refine k_aloadT eL_law_221 rfl ?_
  refine k_iload_n eL_law_222 rfl ?_
  refine k_iconst (v := nI 1) eL_law_223 (by decide) ?_
  refine k_iaddN eL_law_224 ?_
  refine k_scr eL_law_225 (by omega) hL ?_
  refine cVE1 (M' := MX11_work) eL_law_226 mL_13 wX11_work vX11_work ⟨_, _, _, rfl, rfl, rfl⟩ rfl hc (by omega) (Nat.le_of_ble_eq_true rfl) ?_
  intro v S1 hQ
  refine k_aload_n eL_law_229 rfl ?_
  refine k_aloadT eL_law_230 rfl ?_
  refine k_iload_n eL_law_231 rfl ?_
  refine k_iconst (v := nI 1) eL_law_232 (by decide) ?_
  refine k_iaddN eL_law_233 ?_
  refine k_scr eL_law_234 (by omega) hL ?_
  refine cVE1 (M' := MX12_work) eL_law_235 mL_17 wX12_work vX12_work ⟨_, _, _, rfl, rfl, rfl⟩ rfl (hm v S1 hQ) (by omega) (Nat.le_of_ble_eq_true rfl) ?_
  rintro v2 S2 ⟨rfl, hR⟩
  exact k_icmp_eq 1610 eL_law_238 (by decide) (fun _ => kx S2 hR) (fun c => absurd rfl c)
theorem lw_c243 {nm : String} {L : Nat} {xs : Nat → Int32} {j : Nat} {S : k_S} {Po : Option Value → k_H → Prop} (hj : j + 6 ≤ L) (hL : L ≤ 3072) (h : RRx S) (kx : ∀ S2, RRx S2 → AW (some (L, xs)) (Mn nm) 100 0 0 1610 [.retAddr 0, .ref 0, .ref 52, .int (nI j)] [] (hp S2) Po) : AW (some (L, xs)) (Mn nm) 100 0 0 243 [.retAddr 0, .ref 0, .ref 52, .int (nI j)] [] (hp S) Po := by
  obtain ⟨dc, dm, Q, h1, h2, hc, hm⟩ := bothI rfl (bo_mend h (xs (j + 1)) (xs (j + 2)) (xs (j + 3)))
  refine k_aload_n eL_law_243 rfl ?_
  refine k_aloadT eL_law_244 rfl ?_
  refine k_iload_n eL_law_245 rfl ?_
  refine k_iconst (v := nI 1) eL_law_246 (by decide) ?_
  refine k_iaddN eL_law_247 ?_
  refine k_scr eL_law_248 (by omega) hL ?_
  refine k_aloadT eL_law_249 rfl ?_
  refine k_iload_n eL_law_250 rfl ?_
  refine k_iconst (v := nI 2) eL_law_251 (by decide) ?_
  refine k_iaddN eL_law_252 ?_
  refine k_scr eL_law_253 (by omega) hL ?_
  refine k_aloadT eL_law_254 rfl ?_
  refine k_iload_n eL_law_255 rfl ?_
  refine k_iconst (v := nI 3) eL_law_256 (by decide) ?_
  refine k_iaddN eL_law_257 ?_
  refine k_scr eL_law_258 (by omega) hL ?_
  refine cVE1 (M' := MX11_mend) eL_law_259 mL_18 wX11_mend vX11_mend ⟨_, _, _, rfl, rfl, rfl⟩ rfl hc (by omega) (Nat.le_of_ble_eq_true rfl) ?_
  intro v S1 hQ
  refine k_aload_n eL_law_262 rfl ?_
  refine k_aloadT eL_law_263 rfl ?_
  refine k_iload_n eL_law_264 rfl ?_
  refine k_iconst (v := nI 1) eL_law_265 (by decide) ?_
  refine k_iaddN eL_law_266 ?_
  refine k_scr eL_law_267 (by omega) hL ?_
  refine k_aloadT eL_law_268 rfl ?_
  refine k_iload_n eL_law_269 rfl ?_
  refine k_iconst (v := nI 2) eL_law_270 (by decide) ?_
  refine k_iaddN eL_law_271 ?_
  refine k_scr eL_law_272 (by omega) hL ?_
  refine k_aloadT eL_law_273 rfl ?_
  refine k_iload_n eL_law_274 rfl ?_
  refine k_iconst (v := nI 3) eL_law_275 (by decide) ?_
  refine k_iaddN eL_law_276 ?_
  refine k_scr eL_law_277 (by omega) hL ?_
  refine cVE1 (M' := MX12_mend) eL_law_278 mL_22 wX12_mend vX12_mend ⟨_, _, _, rfl, rfl, rfl⟩ rfl (hm v S1 hQ) (by omega) (Nat.le_of_ble_eq_true rfl) ?_
  rintro v2 S2 ⟨rfl, hR⟩
  exact k_icmp_eq 1610 eL_law_281 (by decide) (fun _ => kx S2 hR) (fun c => absurd rfl c)
theorem lw_c286 {nm : String} {L : Nat} {xs : Nat → Int32} {j : Nat} {S : k_S} {Po : Option Value → k_H → Prop} (hj : j + 6 ≤ L) (hL : L ≤ 3072) (h : RRx S) (kx : ∀ S2, RRx S2 → AW (some (L, xs)) (Mn nm) 100 0 0 1610 [.retAddr 0, .ref 0, .ref 52, .int (nI j)] [] (hp S2) Po) : AW (some (L, xs)) (Mn nm) 100 0 0 286 [.retAddr 0, .ref 0, .ref 52, .int (nI j)] [] (hp S) Po := by
  obtain ⟨dc, dm, Q, h1, h2, hc, hm⟩ := bothI rfl (bo_runner h (xs (j + 1)) (xs (j + 2)))
  refine k_aload_n eL_law_286 rfl ?_
  refine k_aloadT eL_law_287 rfl ?_
  refine k_iload_n eL_law_288 rfl ?_
  refine k_iconst (v := nI 1) eL_law_289 (by decide) ?_
  refine k_iaddN eL_law_290 ?_
  refine k_scr eL_law_291 (by omega) hL ?_
  refine k_aloadT eL_law_292 rfl ?_
  refine k_iload_n eL_law_293 rfl ?_
  refine k_iconst (v := nI 2) eL_law_294 (by decide) ?_
  refine k_iaddN eL_law_295 ?_
  refine k_scr eL_law_296 (by omega) hL ?_
  refine cVE1 (M' := MX11_runner) eL_law_297 mL_23 wX11_runner vX11_runner ⟨_, _, _, rfl, rfl, rfl⟩ rfl hc (by omega) (Nat.le_of_ble_eq_true rfl) ?_
  intro v S1 hQ
  refine k_aload_n eL_law_300 rfl ?_
  refine k_aloadT eL_law_301 rfl ?_
  refine k_iload_n eL_law_302 rfl ?_
  refine k_iconst (v := nI 1) eL_law_303 (by decide) ?_
  refine k_iaddN eL_law_304 ?_
  refine k_scr eL_law_305 (by omega) hL ?_
  refine k_aloadT eL_law_306 rfl ?_
  refine k_iload_n eL_law_307 rfl ?_
  refine k_iconst (v := nI 2) eL_law_308 (by decide) ?_
  refine k_iaddN eL_law_309 ?_
  refine k_scr eL_law_310 (by omega) hL ?_
  refine cVE1 (M' := MX12_runner) eL_law_311 mL_27 wX12_runner vX12_runner ⟨_, _, _, rfl, rfl, rfl⟩ rfl (hm v S1 hQ) (by omega) (Nat.le_of_ble_eq_true rfl) ?_
  rintro v2 S2 ⟨rfl, hR⟩
  exact k_icmp_eq 1610 eL_law_314 (by decide) (fun _ => kx S2 hR) (fun c => absurd rfl c)
theorem lw_c319 {nm : String} {L : Nat} {xs : Nat → Int32} {j : Nat} {S : k_S} {Po : Option Value → k_H → Prop} (hj : j + 6 ≤ L) (hL : L ≤ 3072) (h : RRx S) (kx : ∀ S2, RRx S2 → AW (some (L, xs)) (Mn nm) 100 0 0 1610 [.retAddr 0, .ref 0, .ref 52, .int (nI j)] [] (hp S2) Po) : AW (some (L, xs)) (Mn nm) 100 0 0 319 [.retAddr 0, .ref 0, .ref 52, .int (nI j)] [] (hp S) Po := by
  obtain ⟨dc, dm, Q, h1, h2, hc, hm⟩ := bothI rfl (bo_plan h (xs (j + 1)) (xs (j + 2)))
  refine k_aload_n eL_law_319 rfl ?_
  refine k_aloadT eL_law_320 rfl ?_
  refine k_iload_n eL_law_321 rfl ?_
  refine k_iconst (v := nI 1) eL_law_322 (by decide) ?_
  refine k_iaddN eL_law_323 ?_
  refine k_scr eL_law_324 (by omega) hL ?_
  refine k_aloadT eL_law_325 rfl ?_
  refine k_iload_n eL_law_326 rfl ?_
  refine k_iconst (v := nI 2) eL_law_327 (by decide) ?_
  refine k_iaddN eL_law_328 ?_
  refine k_scr eL_law_329 (by omega) hL ?_
  refine cVE1 (M' := MX11_plan) eL_law_330 mL_28 wX11_plan vX11_plan ⟨_, _, _, rfl, rfl, rfl⟩ rfl hc (by omega) (Nat.le_of_ble_eq_true rfl) ?_
  intro v S1 hQ
  refine k_aload_n eL_law_333 rfl ?_
  refine k_aloadT eL_law_334 rfl ?_
  refine k_iload_n eL_law_335 rfl ?_
  refine k_iconst (v := nI 1) eL_law_336 (by decide) ?_
  refine k_iaddN eL_law_337 ?_
  refine k_scr eL_law_338 (by omega) hL ?_
  refine k_aloadT eL_law_339 rfl ?_
  refine k_iload_n eL_law_340 rfl ?_
  refine k_iconst (v := nI 2) eL_law_341 (by decide) ?_
  refine k_iaddN eL_law_342 ?_
  refine k_scr eL_law_343 (by omega) hL ?_
  refine cVE1 (M' := MX12_plan) eL_law_344 mL_31 wX12_plan vX12_plan ⟨_, _, _, rfl, rfl, rfl⟩ rfl (hm v S1 hQ) (by omega) (Nat.le_of_ble_eq_true rfl) ?_
  rintro v2 S2 ⟨rfl, hR⟩
  exact k_icmp_eq 1610 eL_law_347 (by decide) (fun _ => kx S2 hR) (fun c => absurd rfl c)
theorem lw_c352 {nm : String} {L : Nat} {xs : Nat → Int32} {j : Nat} {S : k_S} {Po : Option Value → k_H → Prop} (hj : j + 6 ≤ L) (hL : L ≤ 3072) (h : RRx S) (kx : ∀ S2, RRx S2 → AW (some (L, xs)) (Mn nm) 100 0 0 1610 [.retAddr 0, .ref 0, .ref 52, .int (nI j)] [] (hp S2) Po) : AW (some (L, xs)) (Mn nm) 100 0 0 352 [.retAddr 0, .ref 0, .ref 52, .int (nI j)] [] (hp S) Po := by
  obtain ⟨dc, dm, Q, h1, h2, hc, hm⟩ := bothI rfl (bo_weeks h (xs (j + 1)) (xs (j + 2)) (xs (j + 3)) (xs (j + 4)))
  refine k_aload_n eL_law_352 rfl ?_
  refine k_aloadT eL_law_353 rfl ?_
  refine k_iload_n eL_law_354 rfl ?_
  refine k_iconst (v := nI 1) eL_law_355 (by decide) ?_
  refine k_iaddN eL_law_356 ?_
  refine k_scr eL_law_357 (by omega) hL ?_
  refine k_aloadT eL_law_358 rfl ?_
  refine k_iload_n eL_law_359 rfl ?_
  refine k_iconst (v := nI 2) eL_law_360 (by decide) ?_
  refine k_iaddN eL_law_361 ?_
  refine k_scr eL_law_362 (by omega) hL ?_
  refine k_aloadT eL_law_363 rfl ?_
  refine k_iload_n eL_law_364 rfl ?_
  refine k_iconst (v := nI 3) eL_law_365 (by decide) ?_
  refine k_iaddN eL_law_366 ?_
  refine k_scr eL_law_367 (by omega) hL ?_
  refine k_aloadT eL_law_368 rfl ?_
  refine k_iload_n eL_law_369 rfl ?_
  refine k_iconst (v := nI 4) eL_law_370 (by decide) ?_
  refine k_iaddN eL_law_371 ?_
  refine k_scr eL_law_372 (by omega) hL ?_
  refine cVE1 (M' := MX11_weeks) eL_law_373 mL_32 wX11_weeks vX11_weeks ⟨_, _, _, rfl, rfl, rfl⟩ rfl hc (by omega) (Nat.le_of_ble_eq_true rfl) ?_
  intro v S1 hQ
  refine k_aload_n eL_law_376 rfl ?_
  refine k_aloadT eL_law_377 rfl ?_
  refine k_iload_n eL_law_378 rfl ?_
  refine k_iconst (v := nI 1) eL_law_379 (by decide) ?_
  refine k_iaddN eL_law_380 ?_
  refine k_scr eL_law_381 (by omega) hL ?_
  refine k_aloadT eL_law_382 rfl ?_
  refine k_iload_n eL_law_383 rfl ?_
  refine k_iconst (v := nI 2) eL_law_384 (by decide) ?_
  refine k_iaddN eL_law_385 ?_
  refine k_scr eL_law_386 (by omega) hL ?_
  refine k_aloadT eL_law_387 rfl ?_
  refine k_iload_n eL_law_388 rfl ?_
  refine k_iconst (v := nI 3) eL_law_389 (by decide) ?_
  refine k_iaddN eL_law_390 ?_
  refine k_scr eL_law_391 (by omega) hL ?_
  refine k_aloadT eL_law_392 rfl ?_
  refine k_iload_n eL_law_393 rfl ?_
  refine k_iconst (v := nI 4) eL_law_394 (by decide) ?_
  refine k_iaddN eL_law_395 ?_
  refine k_scr eL_law_396 (by omega) hL ?_
  refine cVE1 (M' := MX12_weeks) eL_law_397 mL_36 wX12_weeks vX12_weeks ⟨_, _, _, rfl, rfl, rfl⟩ rfl (hm v S1 hQ) (by omega) (Nat.le_of_ble_eq_true rfl) ?_
  rintro v2 S2 ⟨rfl, hR⟩
  exact k_icmp_eq 1610 eL_law_400 (by decide) (fun _ => kx S2 hR) (fun c => absurd rfl c)
theorem lw_c405 {nm : String} {L : Nat} {xs : Nat → Int32} {j : Nat} {S : k_S} {Po : Option Value → k_H → Prop} (hj : j + 6 ≤ L) (hL : L ≤ 3072) (h : RRx S) (kx : ∀ S2, RRx S2 → AW (some (L, xs)) (Mn nm) 100 0 0 1610 [.retAddr 0, .ref 0, .ref 52, .int (nI j)] [] (hp S2) Po) : AW (some (L, xs)) (Mn nm) 100 0 0 405 [.retAddr 0, .ref 0, .ref 52, .int (nI j)] [] (hp S) Po := by
  obtain ⟨dc, dm, Q, h1, h2, hc, hm⟩ := bothI rfl (bo_shape h (xs (j + 1)) (xs (j + 2)) (xs (j + 3)))
  refine k_aload_n eL_law_405 rfl ?_
  refine k_aloadT eL_law_406 rfl ?_
  refine k_iload_n eL_law_407 rfl ?_
  refine k_iconst (v := nI 1) eL_law_408 (by decide) ?_
  refine k_iaddN eL_law_409 ?_
  refine k_scr eL_law_410 (by omega) hL ?_
  refine k_aloadT eL_law_411 rfl ?_
  refine k_iload_n eL_law_412 rfl ?_
  refine k_iconst (v := nI 2) eL_law_413 (by decide) ?_
  refine k_iaddN eL_law_414 ?_
  refine k_scr eL_law_415 (by omega) hL ?_
  refine k_aloadT eL_law_416 rfl ?_
  refine k_iload_n eL_law_417 rfl ?_
  refine k_iconst (v := nI 3) eL_law_418 (by decide) ?_
  refine k_iaddN eL_law_419 ?_
  refine k_scr eL_law_420 (by omega) hL ?_
  refine cVE1 (M' := MX11_shape) eL_law_421 mL_37 wX11_shape vX11_shape ⟨_, _, _, rfl, rfl, rfl⟩ rfl hc (by omega) (Nat.le_of_ble_eq_true rfl) ?_
  intro v S1 hQ
  refine k_aload_n eL_law_424 rfl ?_
  refine k_aloadT eL_law_425 rfl ?_
  refine k_iload_n eL_law_426 rfl ?_
  refine k_iconst (v := nI 1) eL_law_427 (by decide) ?_
  refine k_iaddN eL_law_428 ?_
  refine k_scr eL_law_429 (by omega) hL ?_
  refine k_aloadT eL_law_430 rfl ?_
  refine k_iload_n eL_law_431 rfl ?_
  refine k_iconst (v := nI 2) eL_law_432 (by decide) ?_
  refine k_iaddN eL_law_433 ?_
  refine k_scr eL_law_434 (by omega) hL ?_
  refine k_aloadT eL_law_435 rfl ?_
  refine k_iload_n eL_law_436 rfl ?_
  refine k_iconst (v := nI 3) eL_law_437 (by decide) ?_
  refine k_iaddN eL_law_438 ?_
  refine k_scr eL_law_439 (by omega) hL ?_
  refine cVE1 (M' := MX12_shape) eL_law_440 mL_40 wX12_shape vX12_shape ⟨_, _, _, rfl, rfl, rfl⟩ rfl (hm v S1 hQ) (by omega) (Nat.le_of_ble_eq_true rfl) ?_
  rintro v2 S2 ⟨rfl, hR⟩
  exact k_icmp_eq 1610 eL_law_443 (by decide) (fun _ => kx S2 hR) (fun c => absurd rfl c)
theorem lw_c448 {nm : String} {L : Nat} {xs : Nat → Int32} {j : Nat} {S : k_S} {Po : Option Value → k_H → Prop} (hj : j + 6 ≤ L) (hL : L ≤ 3072) (h : RRx S) (kx : ∀ S2, RRx S2 → AW (some (L, xs)) (Mn nm) 100 0 0 1610 [.retAddr 0, .ref 0, .ref 52, .int (nI j)] [] (hp S2) Po) : AW (some (L, xs)) (Mn nm) 100 0 0 448 [.retAddr 0, .ref 0, .ref 52, .int (nI j)] [] (hp S) Po := by
  obtain ⟨dc, dm, Q, h1, h2, hc, hm⟩ := bothI rfl (bo_of h (xs (j + 1)))
  refine k_aload_n eL_law_448 rfl ?_
  refine k_aloadT eL_law_449 rfl ?_
  refine k_iload_n eL_law_450 rfl ?_
  refine k_iconst (v := nI 1) eL_law_451 (by decide) ?_
  refine k_iaddN eL_law_452 ?_
  refine k_scr eL_law_453 (by omega) hL ?_
  refine cVE1 (M' := MX11_of) eL_law_454 mL_41 wX11_of vX11_of ⟨_, _, _, rfl, rfl, rfl⟩ rfl hc (by omega) (Nat.le_of_ble_eq_true rfl) ?_
  intro v S1 hQ
  refine k_aload_n eL_law_457 rfl ?_
  refine k_aloadT eL_law_458 rfl ?_
  refine k_iload_n eL_law_459 rfl ?_
  refine k_iconst (v := nI 1) eL_law_460 (by decide) ?_
  refine k_iaddN eL_law_461 ?_
  refine k_scr eL_law_462 (by omega) hL ?_
  refine cVE1 (M' := MX12_of) eL_law_463 mL_44 wX12_of vX12_of ⟨_, _, _, rfl, rfl, rfl⟩ rfl (hm v S1 hQ) (by omega) (Nat.le_of_ble_eq_true rfl) ?_
  rintro v2 S2 ⟨rfl, hR⟩
  exact k_icmp_eq 1610 eL_law_466 (by decide) (fun _ => kx S2 hR) (fun c => absurd rfl c)
theorem lw_c471 {nm : String} {L : Nat} {xs : Nat → Int32} {j : Nat} {S : k_S} {Po : Option Value → k_H → Prop} (hj : j + 6 ≤ L) (hL : L ≤ 3072) (h : RRx S) (kx : ∀ S2, RRx S2 → AW (some (L, xs)) (Mn nm) 100 0 0 1610 [.retAddr 0, .ref 0, .ref 52, .int (nI j)] [] (hp S2) Po) : AW (some (L, xs)) (Mn nm) 100 0 0 471 [.retAddr 0, .ref 0, .ref 52, .int (nI j)] [] (hp S) Po := by
  obtain ⟨dc, dm, Q, h1, h2, hc, hm⟩ := bothI rfl (bo_fit h (xs (j + 1)) (xs (j + 2)))
  refine k_aload_n eL_law_471 rfl ?_
  refine k_aloadT eL_law_472 rfl ?_
  refine k_iload_n eL_law_473 rfl ?_
  refine k_iconst (v := nI 1) eL_law_474 (by decide) ?_
  refine k_iaddN eL_law_475 ?_
  refine k_scr eL_law_476 (by omega) hL ?_
  refine k_aloadT eL_law_477 rfl ?_
  refine k_iload_n eL_law_478 rfl ?_
  refine k_iconst (v := nI 2) eL_law_479 (by decide) ?_
  refine k_iaddN eL_law_480 ?_
  refine k_scr eL_law_481 (by omega) hL ?_
  refine cVE1 (M' := MX11_fit) eL_law_482 mL_45 wX11_fit vX11_fit ⟨_, _, _, rfl, rfl, rfl⟩ rfl hc (by omega) (Nat.le_of_ble_eq_true rfl) ?_
  intro v S1 hQ
  refine k_aload_n eL_law_485 rfl ?_
  refine k_aloadT eL_law_486 rfl ?_
  refine k_iload_n eL_law_487 rfl ?_
  refine k_iconst (v := nI 1) eL_law_488 (by decide) ?_
  refine k_iaddN eL_law_489 ?_
  refine k_scr eL_law_490 (by omega) hL ?_
  refine k_aloadT eL_law_491 rfl ?_
  refine k_iload_n eL_law_492 rfl ?_
  refine k_iconst (v := nI 2) eL_law_493 (by decide) ?_
  refine k_iaddN eL_law_494 ?_
  refine k_scr eL_law_495 (by omega) hL ?_
  refine cVE1 (M' := MX12_fit) eL_law_496 mL_48 wX12_fit vX12_fit ⟨_, _, _, rfl, rfl, rfl⟩ rfl (hm v S1 hQ) (by omega) (Nat.le_of_ble_eq_true rfl) ?_
  rintro v2 S2 ⟨rfl, hR⟩
  exact k_icmp_eq 1610 eL_law_499 (by decide) (fun _ => kx S2 hR) (fun c => absurd rfl c)
theorem lw_c504 {nm : String} {L : Nat} {xs : Nat → Int32} {j : Nat} {S : k_S} {Po : Option Value → k_H → Prop} (hj : j + 6 ≤ L) (hL : L ≤ 3072) (h : RRx S) (kx : ∀ S2, RRx S2 → AW (some (L, xs)) (Mn nm) 100 0 0 1610 [.retAddr 0, .ref 0, .ref 52, .int (nI j)] [] (hp S2) Po) : AW (some (L, xs)) (Mn nm) 100 0 0 504 [.retAddr 0, .ref 0, .ref 52, .int (nI j)] [] (hp S) Po := by
  obtain ⟨dc, dm, Q, h1, h2, hc, hm⟩ := bothI rfl (bo_points h (xs (j + 1)) (xs (j + 2)) (xs (j + 3)))
  refine k_aload_n eL_law_504 rfl ?_
  refine k_aloadT eL_law_505 rfl ?_
  refine k_iload_n eL_law_506 rfl ?_
  refine k_iconst (v := nI 1) eL_law_507 (by decide) ?_
  refine k_iaddN eL_law_508 ?_
  refine k_scr eL_law_509 (by omega) hL ?_
  refine k_aloadT eL_law_510 rfl ?_
  refine k_iload_n eL_law_511 rfl ?_
  refine k_iconst (v := nI 2) eL_law_512 (by decide) ?_
  refine k_iaddN eL_law_513 ?_
  refine k_scr eL_law_514 (by omega) hL ?_
  refine k_aloadT eL_law_515 rfl ?_
  refine k_iload_n eL_law_516 rfl ?_
  refine k_iconst (v := nI 3) eL_law_517 (by decide) ?_
  refine k_iaddN eL_law_518 ?_
  refine k_scr eL_law_519 (by omega) hL ?_
  refine cVE1 (M' := MX11_points) eL_law_520 mL_49 wX11_points vX11_points ⟨_, _, _, rfl, rfl, rfl⟩ rfl hc (by omega) (Nat.le_of_ble_eq_true rfl) ?_
  intro v S1 hQ
  refine k_aload_n eL_law_523 rfl ?_
  refine k_aloadT eL_law_524 rfl ?_
  refine k_iload_n eL_law_525 rfl ?_
  refine k_iconst (v := nI 1) eL_law_526 (by decide) ?_
  refine k_iaddN eL_law_527 ?_
  refine k_scr eL_law_528 (by omega) hL ?_
  refine k_aloadT eL_law_529 rfl ?_
  refine k_iload_n eL_law_530 rfl ?_
  refine k_iconst (v := nI 2) eL_law_531 (by decide) ?_
  refine k_iaddN eL_law_532 ?_
  refine k_scr eL_law_533 (by omega) hL ?_
  refine k_aloadT eL_law_534 rfl ?_
  refine k_iload_n eL_law_535 rfl ?_
  refine k_iconst (v := nI 3) eL_law_536 (by decide) ?_
  refine k_iaddN eL_law_537 ?_
  refine k_scr eL_law_538 (by omega) hL ?_
  refine cVE1 (M' := MX12_points) eL_law_539 mL_52 wX12_points vX12_points ⟨_, _, _, rfl, rfl, rfl⟩ rfl (hm v S1 hQ) (by omega) (Nat.le_of_ble_eq_true rfl) ?_
  rintro v2 S2 ⟨rfl, hR⟩
  exact k_icmp_eq 1610 eL_law_542 (by decide) (fun _ => kx S2 hR) (fun c => absurd rfl c)
theorem lw_c547 {nm : String} {L : Nat} {xs : Nat → Int32} {j : Nat} {S : k_S} {Po : Option Value → k_H → Prop} (hj : j + 6 ≤ L) (hL : L ≤ 3072) (h : RRx S) (kx : ∀ S2, RRx S2 → AW (some (L, xs)) (Mn nm) 100 0 0 1610 [.retAddr 0, .ref 0, .ref 52, .int (nI j)] [] (hp S2) Po) : AW (some (L, xs)) (Mn nm) 100 0 0 547 [.retAddr 0, .ref 0, .ref 52, .int (nI j)] [] (hp S) Po := by
  obtain ⟨dc, dm, Q, h1, h2, hc, hm⟩ := bothI rfl (bo_counts h (xs (j + 1)) (xs (j + 2)))
  refine k_aload_n eL_law_547 rfl ?_
  refine k_aloadT eL_law_548 rfl ?_
  refine k_iload_n eL_law_549 rfl ?_
  refine k_iconst (v := nI 1) eL_law_550 (by decide) ?_
  refine k_iaddN eL_law_551 ?_
  refine k_scr eL_law_552 (by omega) hL ?_
  refine k_aloadT eL_law_553 rfl ?_
  refine k_iload_n eL_law_554 rfl ?_
  refine k_iconst (v := nI 2) eL_law_555 (by decide) ?_
  refine k_iaddN eL_law_556 ?_
  refine k_scr eL_law_557 (by omega) hL ?_
  refine cVE1 (M' := MX11_counts) eL_law_558 mL_53 wX11_counts vX11_counts ⟨_, _, _, rfl, rfl, rfl⟩ rfl hc (by omega) (Nat.le_of_ble_eq_true rfl) ?_
  intro v S1 hQ
  refine k_aload_n eL_law_561 rfl ?_
  refine k_aloadT eL_law_562 rfl ?_
  refine k_iload_n eL_law_563 rfl ?_
  refine k_iconst (v := nI 1) eL_law_564 (by decide) ?_
  refine k_iaddN eL_law_565 ?_
  refine k_scr eL_law_566 (by omega) hL ?_
  refine k_aloadT eL_law_567 rfl ?_
  refine k_iload_n eL_law_568 rfl ?_
  refine k_iconst (v := nI 2) eL_law_569 (by decide) ?_
  refine k_iaddN eL_law_570 ?_
  refine k_scr eL_law_571 (by omega) hL ?_
  refine cVE1 (M' := MX12_counts) eL_law_572 mL_56 wX12_counts vX12_counts ⟨_, _, _, rfl, rfl, rfl⟩ rfl (hm v S1 hQ) (by omega) (Nat.le_of_ble_eq_true rfl) ?_
  rintro v2 S2 ⟨rfl, hR⟩
  exact k_icmp_eq 1610 eL_law_575 (by decide) (fun _ => kx S2 hR) (fun c => absurd rfl c)
theorem lw_c580 {nm : String} {L : Nat} {xs : Nat → Int32} {j : Nat} {S : k_S} {Po : Option Value → k_H → Prop} (hj : j + 6 ≤ L) (hL : L ≤ 3072) (h : RRx S) (kx : ∀ S2, RRx S2 → AW (some (L, xs)) (Mn nm) 100 0 0 1610 [.retAddr 0, .ref 0, .ref 52, .int (nI j)] [] (hp S2) Po) : AW (some (L, xs)) (Mn nm) 100 0 0 580 [.retAddr 0, .ref 0, .ref 52, .int (nI j)] [] (hp S) Po := by
  obtain ⟨dc, dm, Q, h1, h2, hc, hm⟩ := bothI rfl (bo_forget h )
  refine k_aload_n eL_law_580 rfl ?_
  refine cVE1 (M' := MX11_forget) eL_law_581 mL_57 wX11_forget vX11_forget ⟨_, _, _, rfl, rfl, rfl⟩ rfl hc (by omega) (Nat.le_of_ble_eq_true rfl) ?_
  intro v S1 hQ
  refine k_aload_n eL_law_584 rfl ?_
  refine cVE1 (M' := MX12_forget) eL_law_585 mL_61 wX12_forget vX12_forget ⟨_, _, _, rfl, rfl, rfl⟩ rfl (hm v S1 hQ) (by omega) (Nat.le_of_ble_eq_true rfl) ?_
  rintro v2 S2 ⟨rfl, hR⟩
  exact k_icmp_eq 1610 eL_law_588 (by decide) (fun _ => kx S2 hR) (fun c => absurd rfl c)
theorem lw_c593 {nm : String} {L : Nat} {xs : Nat → Int32} {j : Nat} {S : k_S} {Po : Option Value → k_H → Prop} (hj : j + 6 ≤ L) (hL : L ≤ 3072) (h : RRx S) (kx : ∀ S2, RRx S2 → AW (some (L, xs)) (Mn nm) 100 0 0 1610 [.retAddr 0, .ref 0, .ref 52, .int (nI j)] [] (hp S2) Po) : AW (some (L, xs)) (Mn nm) 100 0 0 593 [.retAddr 0, .ref 0, .ref 52, .int (nI j)] [] (hp S) Po := by
  obtain ⟨dc, dm, Q, h1, h2, hc, hm⟩ := bothI rfl (bo_worth h (xs (j + 1)) (xs (j + 2)))
  refine k_aload_n eL_law_593 rfl ?_
  refine k_aloadT eL_law_594 rfl ?_
  refine k_iload_n eL_law_595 rfl ?_
  refine k_iconst (v := nI 1) eL_law_596 (by decide) ?_
  refine k_iaddN eL_law_597 ?_
  refine k_scr eL_law_598 (by omega) hL ?_
  refine k_aloadT eL_law_599 rfl ?_
  refine k_iload_n eL_law_600 rfl ?_
  refine k_iconst (v := nI 2) eL_law_601 (by decide) ?_
  refine k_iaddN eL_law_602 ?_
  refine k_scr eL_law_603 (by omega) hL ?_
  refine cVE1 (M' := MX11_worth) eL_law_604 mL_62 wX11_worth vX11_worth ⟨_, _, _, rfl, rfl, rfl⟩ rfl hc (by omega) (Nat.le_of_ble_eq_true rfl) ?_
  intro v S1 hQ
  refine k_aload_n eL_law_607 rfl ?_
  refine k_aloadT eL_law_608 rfl ?_
  refine k_iload_n eL_law_609 rfl ?_
  refine k_iconst (v := nI 1) eL_law_610 (by decide) ?_
  refine k_iaddN eL_law_611 ?_
  refine k_scr eL_law_612 (by omega) hL ?_
  refine k_aloadT eL_law_613 rfl ?_
  refine k_iload_n eL_law_614 rfl ?_
  refine k_iconst (v := nI 2) eL_law_615 (by decide) ?_
  refine k_iaddN eL_law_616 ?_
  refine k_scr eL_law_617 (by omega) hL ?_
  refine cVE1 (M' := MX12_worth) eL_law_618 mL_65 wX12_worth vX12_worth ⟨_, _, _, rfl, rfl, rfl⟩ rfl (hm v S1 hQ) (by omega) (Nat.le_of_ble_eq_true rfl) ?_
  rintro v2 S2 ⟨rfl, hR⟩
  exact k_icmp_eq 1610 eL_law_621 (by decide) (fun _ => kx S2 hR) (fun c => absurd rfl c)
theorem lw_c626 {nm : String} {L : Nat} {xs : Nat → Int32} {j : Nat} {S : k_S} {Po : Option Value → k_H → Prop} (hj : j + 6 ≤ L) (hL : L ≤ 3072) (h : RRx S) (kx : ∀ S2, RRx S2 → AW (some (L, xs)) (Mn nm) 100 0 0 1610 [.retAddr 0, .ref 0, .ref 52, .int (nI j)] [] (hp S2) Po) : AW (some (L, xs)) (Mn nm) 100 0 0 626 [.retAddr 0, .ref 0, .ref 52, .int (nI j)] [] (hp S) Po := by
  obtain ⟨dc, dm, Q, h1, h2, hc, hm⟩ := bothI rfl (bo_gained h (xs (j + 1)))
  refine k_aload_n eL_law_626 rfl ?_
  refine k_aloadT eL_law_627 rfl ?_
  refine k_iload_n eL_law_628 rfl ?_
  refine k_iconst (v := nI 1) eL_law_629 (by decide) ?_
  refine k_iaddN eL_law_630 ?_
  refine k_scr eL_law_631 (by omega) hL ?_
  refine cVE1 (M' := MX11_gained) eL_law_632 mL_66 wX11_gained vX11_gained ⟨_, _, _, rfl, rfl, rfl⟩ rfl hc (by omega) (Nat.le_of_ble_eq_true rfl) ?_
  intro v S1 hQ
  refine k_aload_n eL_law_635 rfl ?_
  refine k_aloadT eL_law_636 rfl ?_
  refine k_iload_n eL_law_637 rfl ?_
  refine k_iconst (v := nI 1) eL_law_638 (by decide) ?_
  refine k_iaddN eL_law_639 ?_
  refine k_scr eL_law_640 (by omega) hL ?_
  refine cVE1 (M' := MX12_gained) eL_law_641 mL_69 wX12_gained vX12_gained ⟨_, _, _, rfl, rfl, rfl⟩ rfl (hm v S1 hQ) (by omega) (Nat.le_of_ble_eq_true rfl) ?_
  rintro v2 S2 ⟨rfl, hR⟩
  exact k_icmp_eq 1610 eL_law_644 (by decide) (fun _ => kx S2 hR) (fun c => absurd rfl c)
theorem lw_c649 {nm : String} {L : Nat} {xs : Nat → Int32} {j : Nat} {S : k_S} {Po : Option Value → k_H → Prop} (hj : j + 6 ≤ L) (hL : L ≤ 3072) (h : RRx S) (kx : ∀ S2, RRx S2 → AW (some (L, xs)) (Mn nm) 100 0 0 1610 [.retAddr 0, .ref 0, .ref 52, .int (nI j)] [] (hp S2) Po) : AW (some (L, xs)) (Mn nm) 100 0 0 649 [.retAddr 0, .ref 0, .ref 52, .int (nI j)] [] (hp S) Po := by
  obtain ⟨dc, dm, Q, h1, h2, hc, hm⟩ := bothI rfl (bo_best h (xs (j + 1)) (xs (j + 2)) (xs (j + 3)))
  refine k_aload_n eL_law_649 rfl ?_
  refine k_aloadT eL_law_650 rfl ?_
  refine k_iload_n eL_law_651 rfl ?_
  refine k_iconst (v := nI 1) eL_law_652 (by decide) ?_
  refine k_iaddN eL_law_653 ?_
  refine k_scr eL_law_654 (by omega) hL ?_
  refine k_aloadT eL_law_655 rfl ?_
  refine k_iload_n eL_law_656 rfl ?_
  refine k_iconst (v := nI 2) eL_law_657 (by decide) ?_
  refine k_iaddN eL_law_658 ?_
  refine k_scr eL_law_659 (by omega) hL ?_
  refine k_aloadT eL_law_660 rfl ?_
  refine k_iload_n eL_law_661 rfl ?_
  refine k_iconst (v := nI 3) eL_law_662 (by decide) ?_
  refine k_iaddN eL_law_663 ?_
  refine k_scr eL_law_664 (by omega) hL ?_
  refine cVE1 (M' := MX11_best) eL_law_665 mL_70 wX11_best vX11_best ⟨_, _, _, rfl, rfl, rfl⟩ rfl hc (by omega) (Nat.le_of_ble_eq_true rfl) ?_
  intro v S1 hQ
  refine k_aload_n eL_law_668 rfl ?_
  refine k_aloadT eL_law_669 rfl ?_
  refine k_iload_n eL_law_670 rfl ?_
  refine k_iconst (v := nI 1) eL_law_671 (by decide) ?_
  refine k_iaddN eL_law_672 ?_
  refine k_scr eL_law_673 (by omega) hL ?_
  refine k_aloadT eL_law_674 rfl ?_
  refine k_iload_n eL_law_675 rfl ?_
  refine k_iconst (v := nI 2) eL_law_676 (by decide) ?_
  refine k_iaddN eL_law_677 ?_
  refine k_scr eL_law_678 (by omega) hL ?_
  refine k_aloadT eL_law_679 rfl ?_
  refine k_iload_n eL_law_680 rfl ?_
  refine k_iconst (v := nI 3) eL_law_681 (by decide) ?_
  refine k_iaddN eL_law_682 ?_
  refine k_scr eL_law_683 (by omega) hL ?_
  refine cVE1 (M' := MX12_best) eL_law_684 mL_73 wX12_best vX12_best ⟨_, _, _, rfl, rfl, rfl⟩ rfl (hm v S1 hQ) (by omega) (Nat.le_of_ble_eq_true rfl) ?_
  rintro v2 S2 ⟨rfl, hR⟩
  exact k_icmp_eq 1610 eL_law_687 (by decide) (fun _ => kx S2 hR) (fun c => absurd rfl c)
theorem lw_c692 {nm : String} {L : Nat} {xs : Nat → Int32} {j : Nat} {S : k_S} {Po : Option Value → k_H → Prop} (hj : j + 6 ≤ L) (hL : L ≤ 3072) (h : RRx S) (kx : ∀ S2, RRx S2 → AW (some (L, xs)) (Mn nm) 100 0 0 1610 [.retAddr 0, .ref 0, .ref 52, .int (nI j)] [] (hp S2) Po) : AW (some (L, xs)) (Mn nm) 100 0 0 692 [.retAddr 0, .ref 0, .ref 52, .int (nI j)] [] (hp S) Po := by
  obtain ⟨dc, dm, Q, h1, h2, hc, hm⟩ := bothI rfl (bo_pays h (xs (j + 1)))
  refine k_aload_n eL_law_692 rfl ?_
  refine k_aloadT eL_law_693 rfl ?_
  refine k_iload_n eL_law_694 rfl ?_
  refine k_iconst (v := nI 1) eL_law_695 (by decide) ?_
  refine k_iaddN eL_law_696 ?_
  refine k_scr eL_law_697 (by omega) hL ?_
  refine cVE1 (M' := MX11_pays) eL_law_698 mL_74 wX11_pays vX11_pays ⟨_, _, _, rfl, rfl, rfl⟩ rfl hc (by omega) (Nat.le_of_ble_eq_true rfl) ?_
  intro v S1 hQ
  refine k_aload_n eL_law_701 rfl ?_
  refine k_aloadT eL_law_702 rfl ?_
  refine k_iload_n eL_law_703 rfl ?_
  refine k_iconst (v := nI 1) eL_law_704 (by decide) ?_
  refine k_iaddN eL_law_705 ?_
  refine k_scr eL_law_706 (by omega) hL ?_
  refine cVE1 (M' := MX12_pays) eL_law_707 mL_77 wX12_pays vX12_pays ⟨_, _, _, rfl, rfl, rfl⟩ rfl (hm v S1 hQ) (by omega) (Nat.le_of_ble_eq_true rfl) ?_
  rintro v2 S2 ⟨rfl, hR⟩
  exact k_icmp_eq 1610 eL_law_710 (by decide) (fun _ => kx S2 hR) (fun c => absurd rfl c)
theorem lw_c715 {nm : String} {L : Nat} {xs : Nat → Int32} {j : Nat} {S : k_S} {Po : Option Value → k_H → Prop} (hj : j + 6 ≤ L) (hL : L ≤ 3072) (h : RRx S) (kx : ∀ S2, RRx S2 → AW (some (L, xs)) (Mn nm) 100 0 0 1610 [.retAddr 0, .ref 0, .ref 52, .int (nI j)] [] (hp S2) Po) : AW (some (L, xs)) (Mn nm) 100 0 0 715 [.retAddr 0, .ref 0, .ref 52, .int (nI j)] [] (hp S) Po := by
  obtain ⟨dc, dm, Q, h1, h2, hc, hm⟩ := bothI rfl (bo_led h (xs (j + 1)))
  refine k_aload_n eL_law_715 rfl ?_
  refine k_aloadT eL_law_716 rfl ?_
  refine k_iload_n eL_law_717 rfl ?_
  refine k_iconst (v := nI 1) eL_law_718 (by decide) ?_
  refine k_iaddN eL_law_719 ?_
  refine k_scr eL_law_720 (by omega) hL ?_
  refine cVE1 (M' := MX11_led) eL_law_721 mL_78 wX11_led vX11_led ⟨_, _, _, rfl, rfl, rfl⟩ rfl hc (by omega) (Nat.le_of_ble_eq_true rfl) ?_
  intro v S1 hQ
  refine k_aload_n eL_law_724 rfl ?_
  refine k_aloadT eL_law_725 rfl ?_
  refine k_iload_n eL_law_726 rfl ?_
  refine k_iconst (v := nI 1) eL_law_727 (by decide) ?_
  refine k_iaddN eL_law_728 ?_
  refine k_scr eL_law_729 (by omega) hL ?_
  refine cVE1 (M' := MX12_led) eL_law_730 mL_81 wX12_led vX12_led ⟨_, _, _, rfl, rfl, rfl⟩ rfl (hm v S1 hQ) (by omega) (Nat.le_of_ble_eq_true rfl) ?_
  rintro v2 S2 ⟨rfl, hR⟩
  exact k_icmp_eq 1610 eL_law_733 (by decide) (fun _ => kx S2 hR) (fun c => absurd rfl c)
theorem lw_c738 {nm : String} {L : Nat} {xs : Nat → Int32} {j : Nat} {S : k_S} {Po : Option Value → k_H → Prop} (hj : j + 6 ≤ L) (hL : L ≤ 3072) (h : RRx S) (kx : ∀ S2, RRx S2 → AW (some (L, xs)) (Mn nm) 100 0 0 1610 [.retAddr 0, .ref 0, .ref 52, .int (nI j)] [] (hp S2) Po) : AW (some (L, xs)) (Mn nm) 100 0 0 738 [.retAddr 0, .ref 0, .ref 52, .int (nI j)] [] (hp S) Po := by
  obtain ⟨dc, dm, Q, h1, h2, hc, hm⟩ := bothI rfl (bo_taper h (xs (j + 1)) (xs (j + 2)))
  refine k_aload_n eL_law_738 rfl ?_
  refine k_aloadT eL_law_739 rfl ?_
  refine k_iload_n eL_law_740 rfl ?_
  refine k_iconst (v := nI 1) eL_law_741 (by decide) ?_
  refine k_iaddN eL_law_742 ?_
  refine k_scr eL_law_743 (by omega) hL ?_
  refine k_aloadT eL_law_744 rfl ?_
  refine k_iload_n eL_law_745 rfl ?_
  refine k_iconst (v := nI 2) eL_law_746 (by decide) ?_
  refine k_iaddN eL_law_747 ?_
  refine k_scr eL_law_748 (by omega) hL ?_
  refine cVE1 (M' := MX11_taper) eL_law_749 mL_82 wX11_taper vX11_taper ⟨_, _, _, rfl, rfl, rfl⟩ rfl hc (by omega) (Nat.le_of_ble_eq_true rfl) ?_
  intro v S1 hQ
  refine k_aload_n eL_law_752 rfl ?_
  refine k_aloadT eL_law_753 rfl ?_
  refine k_iload_n eL_law_754 rfl ?_
  refine k_iconst (v := nI 1) eL_law_755 (by decide) ?_
  refine k_iaddN eL_law_756 ?_
  refine k_scr eL_law_757 (by omega) hL ?_
  refine k_aloadT eL_law_758 rfl ?_
  refine k_iload_n eL_law_759 rfl ?_
  refine k_iconst (v := nI 2) eL_law_760 (by decide) ?_
  refine k_iaddN eL_law_761 ?_
  refine k_scr eL_law_762 (by omega) hL ?_
  refine cVE1 (M' := MX12_taper) eL_law_763 mL_85 wX12_taper vX12_taper ⟨_, _, _, rfl, rfl, rfl⟩ rfl (hm v S1 hQ) (by omega) (Nat.le_of_ble_eq_true rfl) ?_
  rintro v2 S2 ⟨rfl, hR⟩
  exact k_icmp_eq 1610 eL_law_766 (by decide) (fun _ => kx S2 hR) (fun c => absurd rfl c)
theorem lw_c771 {nm : String} {L : Nat} {xs : Nat → Int32} {j : Nat} {S : k_S} {Po : Option Value → k_H → Prop} (hj : j + 6 ≤ L) (hL : L ≤ 3072) (h : RRx S) (kx : ∀ S2, RRx S2 → AW (some (L, xs)) (Mn nm) 100 0 0 1610 [.retAddr 0, .ref 0, .ref 52, .int (nI j)] [] (hp S2) Po) : AW (some (L, xs)) (Mn nm) 100 0 0 771 [.retAddr 0, .ref 0, .ref 52, .int (nI j)] [] (hp S) Po := by
  obtain ⟨dc, dm, Q, h1, h2, hc, hm⟩ := bothI rfl (bo_feed h (xs (j + 1)) (xs (j + 2)))
  refine k_aload_n eL_law_771 rfl ?_
  refine k_aloadT eL_law_772 rfl ?_
  refine k_iload_n eL_law_773 rfl ?_
  refine k_iconst (v := nI 1) eL_law_774 (by decide) ?_
  refine k_iaddN eL_law_775 ?_
  refine k_scr eL_law_776 (by omega) hL ?_
  refine k_aloadT eL_law_777 rfl ?_
  refine k_iload_n eL_law_778 rfl ?_
  refine k_iconst (v := nI 2) eL_law_779 (by decide) ?_
  refine k_iaddN eL_law_780 ?_
  refine k_scr eL_law_781 (by omega) hL ?_
  refine cVE1 (M' := MX11_feed) eL_law_782 mL_86 wX11_feed vX11_feed ⟨_, _, _, rfl, rfl, rfl⟩ rfl hc (by omega) (Nat.le_of_ble_eq_true rfl) ?_
  intro v S1 hQ
  refine k_aload_n eL_law_785 rfl ?_
  refine k_aloadT eL_law_786 rfl ?_
  refine k_iload_n eL_law_787 rfl ?_
  refine k_iconst (v := nI 1) eL_law_788 (by decide) ?_
  refine k_iaddN eL_law_789 ?_
  refine k_scr eL_law_790 (by omega) hL ?_
  refine k_aloadT eL_law_791 rfl ?_
  refine k_iload_n eL_law_792 rfl ?_
  refine k_iconst (v := nI 2) eL_law_793 (by decide) ?_
  refine k_iaddN eL_law_794 ?_
  refine k_scr eL_law_795 (by omega) hL ?_
  refine cVE1 (M' := MX12_feed) eL_law_796 mL_89 wX12_feed vX12_feed ⟨_, _, _, rfl, rfl, rfl⟩ rfl (hm v S1 hQ) (by omega) (Nat.le_of_ble_eq_true rfl) ?_
  rintro v2 S2 ⟨rfl, hR⟩
  exact k_icmp_eq 1610 eL_law_799 (by decide) (fun _ => kx S2 hR) (fun c => absurd rfl c)
theorem lw_c804 {nm : String} {L : Nat} {xs : Nat → Int32} {j : Nat} {S : k_S} {Po : Option Value → k_H → Prop} (hj : j + 6 ≤ L) (hL : L ≤ 3072) (h : RRx S) (kx : ∀ S2, RRx S2 → AW (some (L, xs)) (Mn nm) 100 0 0 1610 [.retAddr 0, .ref 0, .ref 52, .int (nI j)] [] (hp S2) Po) : AW (some (L, xs)) (Mn nm) 100 0 0 804 [.retAddr 0, .ref 0, .ref 52, .int (nI j)] [] (hp S) Po := by
  obtain ⟨dc, dm, Q, h1, h2, hc, hm⟩ := bothI rfl (bo_text h (xs (j + 1)))
  refine k_aload_n eL_law_804 rfl ?_
  refine k_aloadT eL_law_805 rfl ?_
  refine k_iload_n eL_law_806 rfl ?_
  refine k_iconst (v := nI 1) eL_law_807 (by decide) ?_
  refine k_iaddN eL_law_808 ?_
  refine k_scr eL_law_809 (by omega) hL ?_
  refine cVE1 (M' := MX11_text) eL_law_810 mL_90 wX11_text vX11_text ⟨_, _, _, rfl, rfl, rfl⟩ rfl hc (by omega) (Nat.le_of_ble_eq_true rfl) ?_
  intro v S1 hQ
  refine k_aload_n eL_law_813 rfl ?_
  refine k_aloadT eL_law_814 rfl ?_
  refine k_iload_n eL_law_815 rfl ?_
  refine k_iconst (v := nI 1) eL_law_816 (by decide) ?_
  refine k_iaddN eL_law_817 ?_
  refine k_scr eL_law_818 (by omega) hL ?_
  refine cVE1 (M' := MX12_text) eL_law_819 mL_93 wX12_text vX12_text ⟨_, _, _, rfl, rfl, rfl⟩ rfl (hm v S1 hQ) (by omega) (Nat.le_of_ble_eq_true rfl) ?_
  rintro v2 S2 ⟨rfl, hR⟩
  exact k_icmp_eq 1610 eL_law_822 (by decide) (fun _ => kx S2 hR) (fun c => absurd rfl c)
theorem lw_c827 {nm : String} {L : Nat} {xs : Nat → Int32} {j : Nat} {S : k_S} {Po : Option Value → k_H → Prop} (hj : j + 6 ≤ L) (hL : L ≤ 3072) (h : RRx S) (kx : ∀ S2, RRx S2 → AW (some (L, xs)) (Mn nm) 100 0 0 1610 [.retAddr 0, .ref 0, .ref 52, .int (nI j)] [] (hp S2) Po) : AW (some (L, xs)) (Mn nm) 100 0 0 827 [.retAddr 0, .ref 0, .ref 52, .int (nI j)] [] (hp S) Po := by
  obtain ⟨dc, dm, Q, h1, h2, hc, hm⟩ := bothI rfl (bo_risk h (xs (j + 1)) (xs (j + 2)))
  refine k_aload_n eL_law_827 rfl ?_
  refine k_aloadT eL_law_828 rfl ?_
  refine k_iload_n eL_law_829 rfl ?_
  refine k_iconst (v := nI 1) eL_law_830 (by decide) ?_
  refine k_iaddN eL_law_831 ?_
  refine k_scr eL_law_832 (by omega) hL ?_
  refine k_aloadT eL_law_833 rfl ?_
  refine k_iload_n eL_law_834 rfl ?_
  refine k_iconst (v := nI 2) eL_law_835 (by decide) ?_
  refine k_iaddN eL_law_836 ?_
  refine k_scr eL_law_837 (by omega) hL ?_
  refine cVE1 (M' := MX11_risk) eL_law_838 mL_94 wX11_risk vX11_risk ⟨_, _, _, rfl, rfl, rfl⟩ rfl hc (by omega) (Nat.le_of_ble_eq_true rfl) ?_
  intro v S1 hQ
  refine k_aload_n eL_law_841 rfl ?_
  refine k_aloadT eL_law_842 rfl ?_
  refine k_iload_n eL_law_843 rfl ?_
  refine k_iconst (v := nI 1) eL_law_844 (by decide) ?_
  refine k_iaddN eL_law_845 ?_
  refine k_scr eL_law_846 (by omega) hL ?_
  refine k_aloadT eL_law_847 rfl ?_
  refine k_iload_n eL_law_848 rfl ?_
  refine k_iconst (v := nI 2) eL_law_849 (by decide) ?_
  refine k_iaddN eL_law_850 ?_
  refine k_scr eL_law_851 (by omega) hL ?_
  refine cVE1 (M' := MX12_risk) eL_law_852 mL_97 wX12_risk vX12_risk ⟨_, _, _, rfl, rfl, rfl⟩ rfl (hm v S1 hQ) (by omega) (Nat.le_of_ble_eq_true rfl) ?_
  rintro v2 S2 ⟨rfl, hR⟩
  exact k_icmp_eq 1610 eL_law_855 (by decide) (fun _ => kx S2 hR) (fun c => absurd rfl c)
theorem lw_c860 {nm : String} {L : Nat} {xs : Nat → Int32} {j : Nat} {S : k_S} {Po : Option Value → k_H → Prop} (hj : j + 6 ≤ L) (hL : L ≤ 3072) (h : RRx S) (kx : ∀ S2, RRx S2 → AW (some (L, xs)) (Mn nm) 100 0 0 1610 [.retAddr 0, .ref 0, .ref 52, .int (nI j)] [] (hp S2) Po) : AW (some (L, xs)) (Mn nm) 100 0 0 860 [.retAddr 0, .ref 0, .ref 52, .int (nI j)] [] (hp S) Po := by
  obtain ⟨dc, dm, Q, h1, h2, hc, hm⟩ := bothI rfl (bo_lost h (xs (j + 1)))
  refine k_aload_n eL_law_860 rfl ?_
  refine k_aloadT eL_law_861 rfl ?_
  refine k_iload_n eL_law_862 rfl ?_
  refine k_iconst (v := nI 1) eL_law_863 (by decide) ?_
  refine k_iaddN eL_law_864 ?_
  refine k_scr eL_law_865 (by omega) hL ?_
  refine cVE1 (M' := MX11_lost) eL_law_866 mL_98 wX11_lost vX11_lost ⟨_, _, _, rfl, rfl, rfl⟩ rfl hc (by omega) (Nat.le_of_ble_eq_true rfl) ?_
  intro v S1 hQ
  refine k_aload_n eL_law_869 rfl ?_
  refine k_aloadT eL_law_870 rfl ?_
  refine k_iload_n eL_law_871 rfl ?_
  refine k_iconst (v := nI 1) eL_law_872 (by decide) ?_
  refine k_iaddN eL_law_873 ?_
  refine k_scr eL_law_874 (by omega) hL ?_
  refine cVE1 (M' := MX12_lost) eL_law_875 mL_101 wX12_lost vX12_lost ⟨_, _, _, rfl, rfl, rfl⟩ rfl (hm v S1 hQ) (by omega) (Nat.le_of_ble_eq_true rfl) ?_
  rintro v2 S2 ⟨rfl, hR⟩
  exact k_icmp_eq 1610 eL_law_878 (by decide) (fun _ => kx S2 hR) (fun c => absurd rfl c)
theorem lw_c883 {nm : String} {L : Nat} {xs : Nat → Int32} {j : Nat} {S : k_S} {Po : Option Value → k_H → Prop} (hj : j + 6 ≤ L) (hL : L ≤ 3072) (h : RRx S) (kx : ∀ S2, RRx S2 → AW (some (L, xs)) (Mn nm) 100 0 0 1610 [.retAddr 0, .ref 0, .ref 52, .int (nI j)] [] (hp S2) Po) : AW (some (L, xs)) (Mn nm) 100 0 0 883 [.retAddr 0, .ref 0, .ref 52, .int (nI j)] [] (hp S) Po := by
  obtain ⟨dc, dm, Q, h1, h2, hc, hm⟩ := bothI rfl (bo_mean h (xs (j + 1)))
  refine k_aload_n eL_law_883 rfl ?_
  refine k_aloadT eL_law_884 rfl ?_
  refine k_iload_n eL_law_885 rfl ?_
  refine k_iconst (v := nI 1) eL_law_886 (by decide) ?_
  refine k_iaddN eL_law_887 ?_
  refine k_scr eL_law_888 (by omega) hL ?_
  refine cVE1 (M' := MX11_mean) eL_law_889 mL_102 wX11_mean vX11_mean ⟨_, _, _, rfl, rfl, rfl⟩ rfl hc (by omega) (Nat.le_of_ble_eq_true rfl) ?_
  intro v S1 hQ
  refine k_aload_n eL_law_892 rfl ?_
  refine k_aloadT eL_law_893 rfl ?_
  refine k_iload_n eL_law_894 rfl ?_
  refine k_iconst (v := nI 1) eL_law_895 (by decide) ?_
  refine k_iaddN eL_law_896 ?_
  refine k_scr eL_law_897 (by omega) hL ?_
  refine cVE1 (M' := MX12_mean) eL_law_898 mL_105 wX12_mean vX12_mean ⟨_, _, _, rfl, rfl, rfl⟩ rfl (hm v S1 hQ) (by omega) (Nat.le_of_ble_eq_true rfl) ?_
  rintro v2 S2 ⟨rfl, hR⟩
  exact k_icmp_eq 1610 eL_law_901 (by decide) (fun _ => kx S2 hR) (fun c => absurd rfl c)
theorem lw_c906 {nm : String} {L : Nat} {xs : Nat → Int32} {j : Nat} {S : k_S} {Po : Option Value → k_H → Prop} (hj : j + 6 ≤ L) (hL : L ≤ 3072) (h : RRx S) (kx : ∀ S2, RRx S2 → AW (some (L, xs)) (Mn nm) 100 0 0 1610 [.retAddr 0, .ref 0, .ref 52, .int (nI j)] [] (hp S2) Po) : AW (some (L, xs)) (Mn nm) 100 0 0 906 [.retAddr 0, .ref 0, .ref 52, .int (nI j)] [] (hp S) Po := by
  obtain ⟨dc, dm, Q, h1, h2, hc, hm⟩ := bothI rfl (bo_judge h (xs (j + 1)))
  refine k_aload_n eL_law_906 rfl ?_
  refine k_aloadT eL_law_907 rfl ?_
  refine k_iload_n eL_law_908 rfl ?_
  refine k_iconst (v := nI 1) eL_law_909 (by decide) ?_
  refine k_iaddN eL_law_910 ?_
  refine k_scr eL_law_911 (by omega) hL ?_
  refine cVE1 (M' := MX11_judge) eL_law_912 mL_106 wX11_judge vX11_judge ⟨_, _, _, rfl, rfl, rfl⟩ rfl hc (by omega) (Nat.le_of_ble_eq_true rfl) ?_
  intro v S1 hQ
  refine k_aload_n eL_law_915 rfl ?_
  refine k_aloadT eL_law_916 rfl ?_
  refine k_iload_n eL_law_917 rfl ?_
  refine k_iconst (v := nI 1) eL_law_918 (by decide) ?_
  refine k_iaddN eL_law_919 ?_
  refine k_scr eL_law_920 (by omega) hL ?_
  refine cVE1 (M' := MX12_judge) eL_law_921 mL_109 wX12_judge vX12_judge ⟨_, _, _, rfl, rfl, rfl⟩ rfl (hm v S1 hQ) (by omega) (Nat.le_of_ble_eq_true rfl) ?_
  rintro v2 S2 ⟨rfl, hR⟩
  exact k_icmp_eq 1610 eL_law_924 (by decide) (fun _ => kx S2 hR) (fun c => absurd rfl c)
theorem lw_c929 {nm : String} {L : Nat} {xs : Nat → Int32} {j : Nat} {S : k_S} {Po : Option Value → k_H → Prop} (hj : j + 6 ≤ L) (hL : L ≤ 3072) (h : RRx S) (kx : ∀ S2, RRx S2 → AW (some (L, xs)) (Mn nm) 100 0 0 1610 [.retAddr 0, .ref 0, .ref 52, .int (nI j)] [] (hp S2) Po) : AW (some (L, xs)) (Mn nm) 100 0 0 929 [.retAddr 0, .ref 0, .ref 52, .int (nI j)] [] (hp S) Po := by
  obtain ⟨dc, dm, Q, h1, h2, hc, hm⟩ := bothI rfl (bo_feel h (xs (j + 1)) (xs (j + 2)))
  refine k_aload_n eL_law_929 rfl ?_
  refine k_aloadT eL_law_930 rfl ?_
  refine k_iload_n eL_law_931 rfl ?_
  refine k_iconst (v := nI 1) eL_law_932 (by decide) ?_
  refine k_iaddN eL_law_933 ?_
  refine k_scr eL_law_934 (by omega) hL ?_
  refine k_aloadT eL_law_935 rfl ?_
  refine k_iload_n eL_law_936 rfl ?_
  refine k_iconst (v := nI 2) eL_law_937 (by decide) ?_
  refine k_iaddN eL_law_938 ?_
  refine k_scr eL_law_939 (by omega) hL ?_
  refine cVE1 (M' := MX11_feel) eL_law_940 mL_110 wX11_feel vX11_feel ⟨_, _, _, rfl, rfl, rfl⟩ rfl hc (by omega) (Nat.le_of_ble_eq_true rfl) ?_
  intro v S1 hQ
  refine k_aload_n eL_law_943 rfl ?_
  refine k_aloadT eL_law_944 rfl ?_
  refine k_iload_n eL_law_945 rfl ?_
  refine k_iconst (v := nI 1) eL_law_946 (by decide) ?_
  refine k_iaddN eL_law_947 ?_
  refine k_scr eL_law_948 (by omega) hL ?_
  refine k_aloadT eL_law_949 rfl ?_
  refine k_iload_n eL_law_950 rfl ?_
  refine k_iconst (v := nI 2) eL_law_951 (by decide) ?_
  refine k_iaddN eL_law_952 ?_
  refine k_scr eL_law_953 (by omega) hL ?_
  refine cVE1 (M' := MX12_feel) eL_law_954 mL_113 wX12_feel vX12_feel ⟨_, _, _, rfl, rfl, rfl⟩ rfl (hm v S1 hQ) (by omega) (Nat.le_of_ble_eq_true rfl) ?_
  rintro v2 S2 ⟨rfl, hR⟩
  exact k_icmp_eq 1610 eL_law_957 (by decide) (fun _ => kx S2 hR) (fun c => absurd rfl c)
theorem lw_c962 {nm : String} {L : Nat} {xs : Nat → Int32} {j : Nat} {S : k_S} {Po : Option Value → k_H → Prop} (hj : j + 6 ≤ L) (hL : L ≤ 3072) (h : RRx S) (kx : ∀ S2, RRx S2 → AW (some (L, xs)) (Mn nm) 100 0 0 1610 [.retAddr 0, .ref 0, .ref 52, .int (nI j)] [] (hp S2) Po) : AW (some (L, xs)) (Mn nm) 100 0 0 962 [.retAddr 0, .ref 0, .ref 52, .int (nI j)] [] (hp S) Po := by
  obtain ⟨dc, dm, Q, h1, h2, hc, hm⟩ := bothI rfl (bo_test h (xs (j + 1)) (xs (j + 2)))
  refine k_aload_n eL_law_962 rfl ?_
  refine k_aloadT eL_law_963 rfl ?_
  refine k_iload_n eL_law_964 rfl ?_
  refine k_iconst (v := nI 1) eL_law_965 (by decide) ?_
  refine k_iaddN eL_law_966 ?_
  refine k_scr eL_law_967 (by omega) hL ?_
  refine k_aloadT eL_law_968 rfl ?_
  refine k_iload_n eL_law_969 rfl ?_
  refine k_iconst (v := nI 2) eL_law_970 (by decide) ?_
  refine k_iaddN eL_law_971 ?_
  refine k_scr eL_law_972 (by omega) hL ?_
  refine cVE1 (M' := MX11_test) eL_law_973 mL_114 wX11_test vX11_test ⟨_, _, _, rfl, rfl, rfl⟩ rfl hc (by omega) (Nat.le_of_ble_eq_true rfl) ?_
  intro v S1 hQ
  refine k_aload_n eL_law_976 rfl ?_
  refine k_aloadT eL_law_977 rfl ?_
  refine k_iload_n eL_law_978 rfl ?_
  refine k_iconst (v := nI 1) eL_law_979 (by decide) ?_
  refine k_iaddN eL_law_980 ?_
  refine k_scr eL_law_981 (by omega) hL ?_
  refine k_aloadT eL_law_982 rfl ?_
  refine k_iload_n eL_law_983 rfl ?_
  refine k_iconst (v := nI 2) eL_law_984 (by decide) ?_
  refine k_iaddN eL_law_985 ?_
  refine k_scr eL_law_986 (by omega) hL ?_
  refine cVE1 (M' := MX12_test) eL_law_987 mL_117 wX12_test vX12_test ⟨_, _, _, rfl, rfl, rfl⟩ rfl (hm v S1 hQ) (by omega) (Nat.le_of_ble_eq_true rfl) ?_
  rintro v2 S2 ⟨rfl, hR⟩
  exact k_icmp_eq 1610 eL_law_990 (by decide) (fun _ => kx S2 hR) (fun c => absurd rfl c)
theorem lw_c995 {nm : String} {L : Nat} {xs : Nat → Int32} {j : Nat} {S : k_S} {Po : Option Value → k_H → Prop} (hj : j + 6 ≤ L) (hL : L ≤ 3072) (h : RRx S) (kx : ∀ S2, RRx S2 → AW (some (L, xs)) (Mn nm) 100 0 0 1610 [.retAddr 0, .ref 0, .ref 52, .int (nI j)] [] (hp S2) Po) : AW (some (L, xs)) (Mn nm) 100 0 0 995 [.retAddr 0, .ref 0, .ref 52, .int (nI j)] [] (hp S) Po := by
  obtain ⟨dc, dm, Q, h1, h2, hc, hm⟩ := bothI rfl (bo_who h (xs (j + 1)))
  refine k_aload_n eL_law_995 rfl ?_
  refine k_aloadT eL_law_996 rfl ?_
  refine k_iload_n eL_law_997 rfl ?_
  refine k_iconst (v := nI 1) eL_law_998 (by decide) ?_
  refine k_iaddN eL_law_999 ?_
  refine k_scr eL_law_1000 (by omega) hL ?_
  refine cVE1 (M' := MX11_who) eL_law_1001 mL_118 wX11_who vX11_who ⟨_, _, _, rfl, rfl, rfl⟩ rfl hc (by omega) (Nat.le_of_ble_eq_true rfl) ?_
  intro v S1 hQ
  refine k_aload_n eL_law_1004 rfl ?_
  refine k_aloadT eL_law_1005 rfl ?_
  refine k_iload_n eL_law_1006 rfl ?_
  refine k_iconst (v := nI 1) eL_law_1007 (by decide) ?_
  refine k_iaddN eL_law_1008 ?_
  refine k_scr eL_law_1009 (by omega) hL ?_
  refine cVE1 (M' := MX12_who) eL_law_1010 mL_121 wX12_who vX12_who ⟨_, _, _, rfl, rfl, rfl⟩ rfl (hm v S1 hQ) (by omega) (Nat.le_of_ble_eq_true rfl) ?_
  rintro v2 S2 ⟨rfl, hR⟩
  exact k_icmp_eq 1610 eL_law_1013 (by decide) (fun _ => kx S2 hR) (fun c => absurd rfl c)
theorem lw_c1018 {nm : String} {L : Nat} {xs : Nat → Int32} {j : Nat} {S : k_S} {Po : Option Value → k_H → Prop} (hj : j + 6 ≤ L) (hL : L ≤ 3072) (h : RRx S) (kx : ∀ S2, RRx S2 → AW (some (L, xs)) (Mn nm) 100 0 0 1610 [.retAddr 0, .ref 0, .ref 52, .int (nI j)] [] (hp S2) Po) : AW (some (L, xs)) (Mn nm) 100 0 0 1018 [.retAddr 0, .ref 0, .ref 52, .int (nI j)] [] (hp S) Po := by
  obtain ⟨dc, dm, Q, h1, h2, hc, hm⟩ := bothI rfl (bo_group h (xs (j + 1)) (xs (j + 2)))
  refine k_aload_n eL_law_1018 rfl ?_
  refine k_aloadT eL_law_1019 rfl ?_
  refine k_iload_n eL_law_1020 rfl ?_
  refine k_iconst (v := nI 1) eL_law_1021 (by decide) ?_
  refine k_iaddN eL_law_1022 ?_
  refine k_scr eL_law_1023 (by omega) hL ?_
  refine k_aloadT eL_law_1024 rfl ?_
  refine k_iload_n eL_law_1025 rfl ?_
  refine k_iconst (v := nI 2) eL_law_1026 (by decide) ?_
  refine k_iaddN eL_law_1027 ?_
  refine k_scr eL_law_1028 (by omega) hL ?_
  refine cVE1 (M' := MX11_group) eL_law_1029 mL_122 wX11_group vX11_group ⟨_, _, _, rfl, rfl, rfl⟩ rfl hc (by omega) (Nat.le_of_ble_eq_true rfl) ?_
  intro v S1 hQ
  refine k_aload_n eL_law_1032 rfl ?_
  refine k_aloadT eL_law_1033 rfl ?_
  refine k_iload_n eL_law_1034 rfl ?_
  refine k_iconst (v := nI 1) eL_law_1035 (by decide) ?_
  refine k_iaddN eL_law_1036 ?_
  refine k_scr eL_law_1037 (by omega) hL ?_
  refine k_aloadT eL_law_1038 rfl ?_
  refine k_iload_n eL_law_1039 rfl ?_
  refine k_iconst (v := nI 2) eL_law_1040 (by decide) ?_
  refine k_iaddN eL_law_1041 ?_
  refine k_scr eL_law_1042 (by omega) hL ?_
  refine cVE1 (M' := MX12_group) eL_law_1043 mL_125 wX12_group vX12_group ⟨_, _, _, rfl, rfl, rfl⟩ rfl (hm v S1 hQ) (by omega) (Nat.le_of_ble_eq_true rfl) ?_
  rintro v2 S2 ⟨rfl, hR⟩
  exact k_icmp_eq 1610 eL_law_1046 (by decide) (fun _ => kx S2 hR) (fun c => absurd rfl c)
theorem lw_c1051 {nm : String} {L : Nat} {xs : Nat → Int32} {j : Nat} {S : k_S} {Po : Option Value → k_H → Prop} (hj : j + 6 ≤ L) (hL : L ≤ 3072) (h : RRx S) (kx : ∀ S2, RRx S2 → AW (some (L, xs)) (Mn nm) 100 0 0 1610 [.retAddr 0, .ref 0, .ref 52, .int (nI j)] [] (hp S2) Po) : AW (some (L, xs)) (Mn nm) 100 0 0 1051 [.retAddr 0, .ref 0, .ref 52, .int (nI j)] [] (hp S) Po := by
  obtain ⟨dc, dm, Q, h1, h2, hc, hm⟩ := bothI rfl (bo_alike h (xs (j + 1)))
  refine k_aload_n eL_law_1051 rfl ?_
  refine k_aloadT eL_law_1052 rfl ?_
  refine k_iload_n eL_law_1053 rfl ?_
  refine k_iconst (v := nI 1) eL_law_1054 (by decide) ?_
  refine k_iaddN eL_law_1055 ?_
  refine k_scr eL_law_1056 (by omega) hL ?_
  refine cVE1 (M' := MX11_alike) eL_law_1057 mL_126 wX11_alike vX11_alike ⟨_, _, _, rfl, rfl, rfl⟩ rfl hc (by omega) (Nat.le_of_ble_eq_true rfl) ?_
  intro v S1 hQ
  refine k_aload_n eL_law_1060 rfl ?_
  refine k_aloadT eL_law_1061 rfl ?_
  refine k_iload_n eL_law_1062 rfl ?_
  refine k_iconst (v := nI 1) eL_law_1063 (by decide) ?_
  refine k_iaddN eL_law_1064 ?_
  refine k_scr eL_law_1065 (by omega) hL ?_
  refine cVE1 (M' := MX12_alike) eL_law_1066 mL_129 wX12_alike vX12_alike ⟨_, _, _, rfl, rfl, rfl⟩ rfl (hm v S1 hQ) (by omega) (Nat.le_of_ble_eq_true rfl) ?_
  rintro v2 S2 ⟨rfl, hR⟩
  exact k_icmp_eq 1610 eL_law_1069 (by decide) (fun _ => kx S2 hR) (fun c => absurd rfl c)
theorem lw_c1074 {nm : String} {L : Nat} {xs : Nat → Int32} {j : Nat} {S : k_S} {Po : Option Value → k_H → Prop} (hj : j + 6 ≤ L) (hL : L ≤ 3072) (h : RRx S) (kx : ∀ S2, RRx S2 → AW (some (L, xs)) (Mn nm) 100 0 0 1610 [.retAddr 0, .ref 0, .ref 52, .int (nI j)] [] (hp S2) Po) : AW (some (L, xs)) (Mn nm) 100 0 0 1074 [.retAddr 0, .ref 0, .ref 52, .int (nI j)] [] (hp S) Po := by
  obtain ⟨dc, dm, Q, h1, h2, hc, hm⟩ := bothI rfl (bo_cold h (xs (j + 1)) (xs (j + 2)))
  refine k_aload_n eL_law_1074 rfl ?_
  refine k_aloadT eL_law_1075 rfl ?_
  refine k_iload_n eL_law_1076 rfl ?_
  refine k_iconst (v := nI 1) eL_law_1077 (by decide) ?_
  refine k_iaddN eL_law_1078 ?_
  refine k_scr eL_law_1079 (by omega) hL ?_
  refine k_aloadT eL_law_1080 rfl ?_
  refine k_iload_n eL_law_1081 rfl ?_
  refine k_iconst (v := nI 2) eL_law_1082 (by decide) ?_
  refine k_iaddN eL_law_1083 ?_
  refine k_scr eL_law_1084 (by omega) hL ?_
  refine cVE1 (M' := MX11_cold) eL_law_1085 mL_130 wX11_cold vX11_cold ⟨_, _, _, rfl, rfl, rfl⟩ rfl hc (by omega) (Nat.le_of_ble_eq_true rfl) ?_
  intro v S1 hQ
  refine k_aload_n eL_law_1088 rfl ?_
  refine k_aloadT eL_law_1089 rfl ?_
  refine k_iload_n eL_law_1090 rfl ?_
  refine k_iconst (v := nI 1) eL_law_1091 (by decide) ?_
  refine k_iaddN eL_law_1092 ?_
  refine k_scr eL_law_1093 (by omega) hL ?_
  refine k_aloadT eL_law_1094 rfl ?_
  refine k_iload_n eL_law_1095 rfl ?_
  refine k_iconst (v := nI 2) eL_law_1096 (by decide) ?_
  refine k_iaddN eL_law_1097 ?_
  refine k_scr eL_law_1098 (by omega) hL ?_
  refine cVE1 (M' := MX12_cold) eL_law_1099 mL_133 wX12_cold vX12_cold ⟨_, _, _, rfl, rfl, rfl⟩ rfl (hm v S1 hQ) (by omega) (Nat.le_of_ble_eq_true rfl) ?_
  rintro v2 S2 ⟨rfl, hR⟩
  exact k_icmp_eq 1610 eL_law_1102 (by decide) (fun _ => kx S2 hR) (fun c => absurd rfl c)
theorem lw_c1107 {nm : String} {L : Nat} {xs : Nat → Int32} {j : Nat} {S : k_S} {Po : Option Value → k_H → Prop} (hj : j + 6 ≤ L) (hL : L ≤ 3072) (h : RRx S) (kx : ∀ S2, RRx S2 → AW (some (L, xs)) (Mn nm) 100 0 0 1610 [.retAddr 0, .ref 0, .ref 52, .int (nI j)] [] (hp S2) Po) : AW (some (L, xs)) (Mn nm) 100 0 0 1107 [.retAddr 0, .ref 0, .ref 52, .int (nI j)] [] (hp S) Po := by
  obtain ⟨dc, dm, Q, h1, h2, hc, hm⟩ := bothI rfl (bo_lines h (xs (j + 1)) (xs (j + 2)) (xs (j + 3)))
  refine k_aload_n eL_law_1107 rfl ?_
  refine k_aloadT eL_law_1108 rfl ?_
  refine k_iload_n eL_law_1109 rfl ?_
  refine k_iconst (v := nI 1) eL_law_1110 (by decide) ?_
  refine k_iaddN eL_law_1111 ?_
  refine k_scr eL_law_1112 (by omega) hL ?_
  refine k_aloadT eL_law_1113 rfl ?_
  refine k_iload_n eL_law_1114 rfl ?_
  refine k_iconst (v := nI 2) eL_law_1115 (by decide) ?_
  refine k_iaddN eL_law_1116 ?_
  refine k_scr eL_law_1117 (by omega) hL ?_
  refine k_aloadT eL_law_1118 rfl ?_
  refine k_iload_n eL_law_1119 rfl ?_
  refine k_iconst (v := nI 3) eL_law_1120 (by decide) ?_
  refine k_iaddN eL_law_1121 ?_
  refine k_scr eL_law_1122 (by omega) hL ?_
  refine cVE1 (M' := MX11_lines) eL_law_1123 mL_134 wX11_lines vX11_lines ⟨_, _, _, rfl, rfl, rfl⟩ rfl hc (by omega) (Nat.le_of_ble_eq_true rfl) ?_
  intro v S1 hQ
  refine k_aload_n eL_law_1126 rfl ?_
  refine k_aloadT eL_law_1127 rfl ?_
  refine k_iload_n eL_law_1128 rfl ?_
  refine k_iconst (v := nI 1) eL_law_1129 (by decide) ?_
  refine k_iaddN eL_law_1130 ?_
  refine k_scr eL_law_1131 (by omega) hL ?_
  refine k_aloadT eL_law_1132 rfl ?_
  refine k_iload_n eL_law_1133 rfl ?_
  refine k_iconst (v := nI 2) eL_law_1134 (by decide) ?_
  refine k_iaddN eL_law_1135 ?_
  refine k_scr eL_law_1136 (by omega) hL ?_
  refine k_aloadT eL_law_1137 rfl ?_
  refine k_iload_n eL_law_1138 rfl ?_
  refine k_iconst (v := nI 3) eL_law_1139 (by decide) ?_
  refine k_iaddN eL_law_1140 ?_
  refine k_scr eL_law_1141 (by omega) hL ?_
  refine cVE1 (M' := MX12_lines) eL_law_1142 mL_137 wX12_lines vX12_lines ⟨_, _, _, rfl, rfl, rfl⟩ rfl (hm v S1 hQ) (by omega) (Nat.le_of_ble_eq_true rfl) ?_
  rintro v2 S2 ⟨rfl, hR⟩
  exact k_icmp_eq 1610 eL_law_1145 (by decide) (fun _ => kx S2 hR) (fun c => absurd rfl c)
theorem lw_c1150 {nm : String} {L : Nat} {xs : Nat → Int32} {j : Nat} {S : k_S} {Po : Option Value → k_H → Prop} (hj : j + 6 ≤ L) (hL : L ≤ 3072) (h : RRx S) (kx : ∀ S2, RRx S2 → AW (some (L, xs)) (Mn nm) 100 0 0 1610 [.retAddr 0, .ref 0, .ref 52, .int (nI j)] [] (hp S2) Po) : AW (some (L, xs)) (Mn nm) 100 0 0 1150 [.retAddr 0, .ref 0, .ref 52, .int (nI j)] [] (hp S) Po := by
  obtain ⟨dc, dm, Q, h1, h2, hc, hm⟩ := bothI rfl (bo_years h (xs (j + 1)) (xs (j + 2)) (xs (j + 3)))
  refine k_aload_n eL_law_1150 rfl ?_
  refine k_aloadT eL_law_1151 rfl ?_
  refine k_iload_n eL_law_1152 rfl ?_
  refine k_iconst (v := nI 1) eL_law_1153 (by decide) ?_
  refine k_iaddN eL_law_1154 ?_
  refine k_scr eL_law_1155 (by omega) hL ?_
  refine k_aloadT eL_law_1156 rfl ?_
  refine k_iload_n eL_law_1157 rfl ?_
  refine k_iconst (v := nI 2) eL_law_1158 (by decide) ?_
  refine k_iaddN eL_law_1159 ?_
  refine k_scr eL_law_1160 (by omega) hL ?_
  refine k_aloadT eL_law_1161 rfl ?_
  refine k_iload_n eL_law_1162 rfl ?_
  refine k_iconst (v := nI 3) eL_law_1163 (by decide) ?_
  refine k_iaddN eL_law_1164 ?_
  refine k_scr eL_law_1165 (by omega) hL ?_
  refine cVE1 (M' := MX11_years) eL_law_1166 mL_138 wX11_years vX11_years ⟨_, _, _, rfl, rfl, rfl⟩ rfl hc (by omega) (Nat.le_of_ble_eq_true rfl) ?_
  intro v S1 hQ
  refine k_aload_n eL_law_1169 rfl ?_
  refine k_aloadT eL_law_1170 rfl ?_
  refine k_iload_n eL_law_1171 rfl ?_
  refine k_iconst (v := nI 1) eL_law_1172 (by decide) ?_
  refine k_iaddN eL_law_1173 ?_
  refine k_scr eL_law_1174 (by omega) hL ?_
  refine k_aloadT eL_law_1175 rfl ?_
  refine k_iload_n eL_law_1176 rfl ?_
  refine k_iconst (v := nI 2) eL_law_1177 (by decide) ?_
  refine k_iaddN eL_law_1178 ?_
  refine k_scr eL_law_1179 (by omega) hL ?_
  refine k_aloadT eL_law_1180 rfl ?_
  refine k_iload_n eL_law_1181 rfl ?_
  refine k_iconst (v := nI 3) eL_law_1182 (by decide) ?_
  refine k_iaddN eL_law_1183 ?_
  refine k_scr eL_law_1184 (by omega) hL ?_
  refine cVE1 (M' := MX12_years) eL_law_1185 mL_141 wX12_years vX12_years ⟨_, _, _, rfl, rfl, rfl⟩ rfl (hm v S1 hQ) (by omega) (Nat.le_of_ble_eq_true rfl) ?_
  rintro v2 S2 ⟨rfl, hR⟩
  exact k_icmp_eq 1610 eL_law_1188 (by decide) (fun _ => kx S2 hR) (fun c => absurd rfl c)
theorem lw_c1193 {nm : String} {L : Nat} {xs : Nat → Int32} {j : Nat} {S : k_S} {Po : Option Value → k_H → Prop} (hj : j + 6 ≤ L) (hL : L ≤ 3072) (h : RRx S) (kx : ∀ S2, RRx S2 → AW (some (L, xs)) (Mn nm) 100 0 0 1610 [.retAddr 0, .ref 0, .ref 52, .int (nI j)] [] (hp S2) Po) : AW (some (L, xs)) (Mn nm) 100 0 0 1193 [.retAddr 0, .ref 0, .ref 52, .int (nI j)] [] (hp S) Po := by
  obtain ⟨dc, dm, Q, h1, h2, hc, hm⟩ := bothI rfl (bo_undo h )
  refine k_aload_n eL_law_1193 rfl ?_
  refine cVE1 (M' := MX11_undo) eL_law_1194 mL_142 wX11_undo vX11_undo ⟨_, _, _, rfl, rfl, rfl⟩ rfl hc (by omega) (Nat.le_of_ble_eq_true rfl) ?_
  intro v S1 hQ
  refine k_aload_n eL_law_1197 rfl ?_
  refine cVE1 (M' := MX12_undo) eL_law_1198 mL_145 wX12_undo vX12_undo ⟨_, _, _, rfl, rfl, rfl⟩ rfl (hm v S1 hQ) (by omega) (Nat.le_of_ble_eq_true rfl) ?_
  rintro v2 S2 ⟨rfl, hR⟩
  exact k_icmp_eq 1610 eL_law_1201 (by decide) (fun _ => kx S2 hR) (fun c => absurd rfl c)
theorem lw_c1206 {nm : String} {L : Nat} {xs : Nat → Int32} {j : Nat} {S : k_S} {Po : Option Value → k_H → Prop} (hj : j + 6 ≤ L) (hL : L ≤ 3072) (h : RRx S) (kx : ∀ S2, RRx S2 → AW (some (L, xs)) (Mn nm) 100 0 0 1610 [.retAddr 0, .ref 0, .ref 52, .int (nI j)] [] (hp S2) Po) : AW (some (L, xs)) (Mn nm) 100 0 0 1206 [.retAddr 0, .ref 0, .ref 52, .int (nI j)] [] (hp S) Po := by
  obtain ⟨dc, dm, Q, h1, h2, hc, hm⟩ := bothI rfl (bo_redo h )
  refine k_aload_n eL_law_1206 rfl ?_
  refine cVE1 (M' := MX11_redo) eL_law_1207 mL_146 wX11_redo vX11_redo ⟨_, _, _, rfl, rfl, rfl⟩ rfl hc (by omega) (Nat.le_of_ble_eq_true rfl) ?_
  intro v S1 hQ
  refine k_aload_n eL_law_1210 rfl ?_
  refine cVE1 (M' := MX12_redo) eL_law_1211 mL_149 wX12_redo vX12_redo ⟨_, _, _, rfl, rfl, rfl⟩ rfl (hm v S1 hQ) (by omega) (Nat.le_of_ble_eq_true rfl) ?_
  rintro v2 S2 ⟨rfl, hR⟩
  exact k_icmp_eq 1610 eL_law_1214 (by decide) (fun _ => kx S2 hR) (fun c => absurd rfl c)
theorem lw_c1219 {nm : String} {L : Nat} {xs : Nat → Int32} {j : Nat} {S : k_S} {Po : Option Value → k_H → Prop} (hj : j + 6 ≤ L) (hL : L ≤ 3072) (h : RRx S) (kx : ∀ S2, RRx S2 → AW (some (L, xs)) (Mn nm) 100 0 0 1610 [.retAddr 0, .ref 0, .ref 52, .int (nI j)] [] (hp S2) Po) : AW (some (L, xs)) (Mn nm) 100 0 0 1219 [.retAddr 0, .ref 0, .ref 52, .int (nI j)] [] (hp S) Po := by
  obtain ⟨dc, dm, Q, h1, h2, hc, hm⟩ := bothI rfl (bo_body h (xs (j + 1)))
  refine k_aload_n eL_law_1219 rfl ?_
  refine k_aloadT eL_law_1220 rfl ?_
  refine k_iload_n eL_law_1221 rfl ?_
  refine k_iconst (v := nI 1) eL_law_1222 (by decide) ?_
  refine k_iaddN eL_law_1223 ?_
  refine k_scr eL_law_1224 (by omega) hL ?_
  refine cVE1 (M' := MX11_body) eL_law_1225 mL_150 wX11_body vX11_body ⟨_, _, _, rfl, rfl, rfl⟩ rfl hc (by omega) (Nat.le_of_ble_eq_true rfl) ?_
  intro v S1 hQ
  refine k_aload_n eL_law_1228 rfl ?_
  refine k_aloadT eL_law_1229 rfl ?_
  refine k_iload_n eL_law_1230 rfl ?_
  refine k_iconst (v := nI 1) eL_law_1231 (by decide) ?_
  refine k_iaddN eL_law_1232 ?_
  refine k_scr eL_law_1233 (by omega) hL ?_
  refine cVE1 (M' := MX12_body) eL_law_1234 mL_153 wX12_body vX12_body ⟨_, _, _, rfl, rfl, rfl⟩ rfl (hm v S1 hQ) (by omega) (Nat.le_of_ble_eq_true rfl) ?_
  rintro v2 S2 ⟨rfl, hR⟩
  exact k_icmp_eq 1610 eL_law_1237 (by decide) (fun _ => kx S2 hR) (fun c => absurd rfl c)
theorem lw_c1242 {nm : String} {L : Nat} {xs : Nat → Int32} {j : Nat} {S : k_S} {Po : Option Value → k_H → Prop} (hj : j + 6 ≤ L) (hL : L ≤ 3072) (h : RRx S) (kx : ∀ S2, RRx S2 → AW (some (L, xs)) (Mn nm) 100 0 0 1610 [.retAddr 0, .ref 0, .ref 52, .int (nI j)] [] (hp S2) Po) : AW (some (L, xs)) (Mn nm) 100 0 0 1242 [.retAddr 0, .ref 0, .ref 52, .int (nI j)] [] (hp S) Po := by
  obtain ⟨dc, dm, Q, h1, h2, hc, hm⟩ := bothI rfl (bo_act h (xs (j + 1)) (xs (j + 2)) (xs (j + 3)))
  refine k_aload_n eL_law_1242 rfl ?_
  refine k_aloadT eL_law_1243 rfl ?_
  refine k_iload_n eL_law_1244 rfl ?_
  refine k_iconst (v := nI 1) eL_law_1245 (by decide) ?_
  refine k_iaddN eL_law_1246 ?_
  refine k_scr eL_law_1247 (by omega) hL ?_
  refine k_aloadT eL_law_1248 rfl ?_
  refine k_iload_n eL_law_1249 rfl ?_
  refine k_iconst (v := nI 2) eL_law_1250 (by decide) ?_
  refine k_iaddN eL_law_1251 ?_
  refine k_scr eL_law_1252 (by omega) hL ?_
  refine k_aloadT eL_law_1253 rfl ?_
  refine k_iload_n eL_law_1254 rfl ?_
  refine k_iconst (v := nI 3) eL_law_1255 (by decide) ?_
  refine k_iaddN eL_law_1256 ?_
  refine k_scr eL_law_1257 (by omega) hL ?_
  refine cVE1 (M' := MX11_act) eL_law_1258 mL_154 wX11_act vX11_act ⟨_, _, _, rfl, rfl, rfl⟩ rfl hc (by omega) (Nat.le_of_ble_eq_true rfl) ?_
  intro v S1 hQ
  refine k_aload_n eL_law_1261 rfl ?_
  refine k_aloadT eL_law_1262 rfl ?_
  refine k_iload_n eL_law_1263 rfl ?_
  refine k_iconst (v := nI 1) eL_law_1264 (by decide) ?_
  refine k_iaddN eL_law_1265 ?_
  refine k_scr eL_law_1266 (by omega) hL ?_
  refine k_aloadT eL_law_1267 rfl ?_
  refine k_iload_n eL_law_1268 rfl ?_
  refine k_iconst (v := nI 2) eL_law_1269 (by decide) ?_
  refine k_iaddN eL_law_1270 ?_
  refine k_scr eL_law_1271 (by omega) hL ?_
  refine k_aloadT eL_law_1272 rfl ?_
  refine k_iload_n eL_law_1273 rfl ?_
  refine k_iconst (v := nI 3) eL_law_1274 (by decide) ?_
  refine k_iaddN eL_law_1275 ?_
  refine k_scr eL_law_1276 (by omega) hL ?_
  refine cVE1 (M' := MX12_act) eL_law_1277 mL_157 wX12_act vX12_act ⟨_, _, _, rfl, rfl, rfl⟩ rfl (hm v S1 hQ) (by omega) (Nat.le_of_ble_eq_true rfl) ?_
  rintro v2 S2 ⟨rfl, hR⟩
  exact k_icmp_eq 1610 eL_law_1280 (by decide) (fun _ => kx S2 hR) (fun c => absurd rfl c)
theorem lw_c1285 {nm : String} {L : Nat} {xs : Nat → Int32} {j : Nat} {S : k_S} {Po : Option Value → k_H → Prop} (hj : j + 6 ≤ L) (hL : L ≤ 3072) (h : RRx S) (kx : ∀ S2, RRx S2 → AW (some (L, xs)) (Mn nm) 100 0 0 1610 [.retAddr 0, .ref 0, .ref 52, .int (nI j)] [] (hp S2) Po) : AW (some (L, xs)) (Mn nm) 100 0 0 1285 [.retAddr 0, .ref 0, .ref 52, .int (nI j)] [] (hp S) Po := by
  obtain ⟨dc, dm, Q, h1, h2, hc, hm⟩ := bothI rfl (bo_trace h (xs (j + 1)))
  refine k_aload_n eL_law_1285 rfl ?_
  refine k_aloadT eL_law_1286 rfl ?_
  refine k_iload_n eL_law_1287 rfl ?_
  refine k_iconst (v := nI 1) eL_law_1288 (by decide) ?_
  refine k_iaddN eL_law_1289 ?_
  refine k_scr eL_law_1290 (by omega) hL ?_
  refine cVE1 (M' := MX11_trace) eL_law_1291 mL_158 wX11_trace vX11_trace ⟨_, _, _, rfl, rfl, rfl⟩ rfl hc (by omega) (Nat.le_of_ble_eq_true rfl) ?_
  intro v S1 hQ
  refine k_aload_n eL_law_1294 rfl ?_
  refine k_aloadT eL_law_1295 rfl ?_
  refine k_iload_n eL_law_1296 rfl ?_
  refine k_iconst (v := nI 1) eL_law_1297 (by decide) ?_
  refine k_iaddN eL_law_1298 ?_
  refine k_scr eL_law_1299 (by omega) hL ?_
  refine cVE1 (M' := MX12_trace) eL_law_1300 mL_161 wX12_trace vX12_trace ⟨_, _, _, rfl, rfl, rfl⟩ rfl (hm v S1 hQ) (by omega) (Nat.le_of_ble_eq_true rfl) ?_
  rintro v2 S2 ⟨rfl, hR⟩
  exact k_icmp_eq 1610 eL_law_1303 (by decide) (fun _ => kx S2 hR) (fun c => absurd rfl c)
theorem lw_c1308 {nm : String} {L : Nat} {xs : Nat → Int32} {j : Nat} {S : k_S} {Po : Option Value → k_H → Prop} (hj : j + 6 ≤ L) (hL : L ≤ 3072) (h : RRx S) (kx : ∀ S2, RRx S2 → AW (some (L, xs)) (Mn nm) 100 0 0 1610 [.retAddr 0, .ref 0, .ref 52, .int (nI j)] [] (hp S2) Po) : AW (some (L, xs)) (Mn nm) 100 0 0 1308 [.retAddr 0, .ref 0, .ref 52, .int (nI j)] [] (hp S) Po := by
  obtain ⟨dc, dm, Q, h1, h2, hc, hm⟩ := bothI rfl (bo_keep h (xs (j + 1)) (xs (j + 2)))
  refine k_aload_n eL_law_1308 rfl ?_
  refine k_aloadT eL_law_1309 rfl ?_
  refine k_iload_n eL_law_1310 rfl ?_
  refine k_iconst (v := nI 1) eL_law_1311 (by decide) ?_
  refine k_iaddN eL_law_1312 ?_
  refine k_scr eL_law_1313 (by omega) hL ?_
  refine k_aloadT eL_law_1314 rfl ?_
  refine k_iload_n eL_law_1315 rfl ?_
  refine k_iconst (v := nI 2) eL_law_1316 (by decide) ?_
  refine k_iaddN eL_law_1317 ?_
  refine k_scr eL_law_1318 (by omega) hL ?_
  refine cVE1 (M' := MX11_keep) eL_law_1319 mL_162 wX11_keep vX11_keep ⟨_, _, _, rfl, rfl, rfl⟩ rfl hc (by omega) (Nat.le_of_ble_eq_true rfl) ?_
  intro v S1 hQ
  refine k_aload_n eL_law_1322 rfl ?_
  refine k_aloadT eL_law_1323 rfl ?_
  refine k_iload_n eL_law_1324 rfl ?_
  refine k_iconst (v := nI 1) eL_law_1325 (by decide) ?_
  refine k_iaddN eL_law_1326 ?_
  refine k_scr eL_law_1327 (by omega) hL ?_
  refine k_aloadT eL_law_1328 rfl ?_
  refine k_iload_n eL_law_1329 rfl ?_
  refine k_iconst (v := nI 2) eL_law_1330 (by decide) ?_
  refine k_iaddN eL_law_1331 ?_
  refine k_scr eL_law_1332 (by omega) hL ?_
  refine cVE1 (M' := MX12_keep) eL_law_1333 mL_165 wX12_keep vX12_keep ⟨_, _, _, rfl, rfl, rfl⟩ rfl (hm v S1 hQ) (by omega) (Nat.le_of_ble_eq_true rfl) ?_
  rintro v2 S2 ⟨rfl, hR⟩
  exact k_icmp_eq 1610 eL_law_1336 (by decide) (fun _ => kx S2 hR) (fun c => absurd rfl c)
theorem lw_c1341 {nm : String} {L : Nat} {xs : Nat → Int32} {j : Nat} {S : k_S} {Po : Option Value → k_H → Prop} (hj : j + 6 ≤ L) (hL : L ≤ 3072) (h : RRx S) (kx : ∀ S2, RRx S2 → AW (some (L, xs)) (Mn nm) 100 0 0 1610 [.retAddr 0, .ref 0, .ref 52, .int (nI j)] [] (hp S2) Po) : AW (some (L, xs)) (Mn nm) 100 0 0 1341 [.retAddr 0, .ref 0, .ref 52, .int (nI j)] [] (hp S) Po := by
  obtain ⟨dc, dm, Q, h1, h2, hc, hm⟩ := bothI rfl (bo_row h (xs (j + 1)) (xs (j + 2)) (xs (j + 3)))
  refine k_aload_n eL_law_1341 rfl ?_
  refine k_aloadT eL_law_1342 rfl ?_
  refine k_iload_n eL_law_1343 rfl ?_
  refine k_iconst (v := nI 1) eL_law_1344 (by decide) ?_
  refine k_iaddN eL_law_1345 ?_
  refine k_scr eL_law_1346 (by omega) hL ?_
  refine k_aloadT eL_law_1347 rfl ?_
  refine k_iload_n eL_law_1348 rfl ?_
  refine k_iconst (v := nI 2) eL_law_1349 (by decide) ?_
  refine k_iaddN eL_law_1350 ?_
  refine k_scr eL_law_1351 (by omega) hL ?_
  refine k_aloadT eL_law_1352 rfl ?_
  refine k_iload_n eL_law_1353 rfl ?_
  refine k_iconst (v := nI 3) eL_law_1354 (by decide) ?_
  refine k_iaddN eL_law_1355 ?_
  refine k_scr eL_law_1356 (by omega) hL ?_
  refine cVE1 (M' := MX11_row) eL_law_1357 mL_166 wX11_row vX11_row ⟨_, _, _, rfl, rfl, rfl⟩ rfl hc (by omega) (Nat.le_of_ble_eq_true rfl) ?_
  intro v S1 hQ
  refine k_aload_n eL_law_1360 rfl ?_
  refine k_aloadT eL_law_1361 rfl ?_
  refine k_iload_n eL_law_1362 rfl ?_
  refine k_iconst (v := nI 1) eL_law_1363 (by decide) ?_
  refine k_iaddN eL_law_1364 ?_
  refine k_scr eL_law_1365 (by omega) hL ?_
  refine k_aloadT eL_law_1366 rfl ?_
  refine k_iload_n eL_law_1367 rfl ?_
  refine k_iconst (v := nI 2) eL_law_1368 (by decide) ?_
  refine k_iaddN eL_law_1369 ?_
  refine k_scr eL_law_1370 (by omega) hL ?_
  refine k_aloadT eL_law_1371 rfl ?_
  refine k_iload_n eL_law_1372 rfl ?_
  refine k_iconst (v := nI 3) eL_law_1373 (by decide) ?_
  refine k_iaddN eL_law_1374 ?_
  refine k_scr eL_law_1375 (by omega) hL ?_
  refine cVE1 (M' := MX12_row) eL_law_1376 mL_169 wX12_row vX12_row ⟨_, _, _, rfl, rfl, rfl⟩ rfl (hm v S1 hQ) (by omega) (Nat.le_of_ble_eq_true rfl) ?_
  rintro v2 S2 ⟨rfl, hR⟩
  exact k_icmp_eq 1610 eL_law_1379 (by decide) (fun _ => kx S2 hR) (fun c => absurd rfl c)
theorem lw_c1384 {nm : String} {L : Nat} {xs : Nat → Int32} {j : Nat} {S : k_S} {Po : Option Value → k_H → Prop} (hj : j + 6 ≤ L) (hL : L ≤ 3072) (h : RRx S) (kx : ∀ S2, RRx S2 → AW (some (L, xs)) (Mn nm) 100 0 0 1610 [.retAddr 0, .ref 0, .ref 52, .int (nI j)] [] (hp S2) Po) : AW (some (L, xs)) (Mn nm) 100 0 0 1384 [.retAddr 0, .ref 0, .ref 52, .int (nI j)] [] (hp S) Po := by
  obtain ⟨dc, dm, Q, h1, h2, hc, hm⟩ := bothI rfl (bo_put h (xs (j + 1)) (xs (j + 2)) (((xs (j + 3)).toInt64 <<< ((nI 32).toInt64 &&& 63)) ||| ((xs (j + 4)).toInt64 &&& 4294967295)))
  refine k_aload_n eL_law_1384 rfl ?_
  refine k_aloadT eL_law_1385 rfl ?_
  refine k_iload_n eL_law_1386 rfl ?_
  refine k_iconst (v := nI 1) eL_law_1387 (by decide) ?_
  refine k_iaddN eL_law_1388 ?_
  refine k_scr eL_law_1389 (by omega) hL ?_
  refine k_aloadT eL_law_1390 rfl ?_
  refine k_iload_n eL_law_1391 rfl ?_
  refine k_iconst (v := nI 2) eL_law_1392 (by decide) ?_
  refine k_iaddN eL_law_1393 ?_
  refine k_scr eL_law_1394 (by omega) hL ?_
  refine k_aloadT eL_law_1395 rfl ?_
  refine k_iload_n eL_law_1396 rfl ?_
  refine k_iconst (v := nI 3) eL_law_1397 (by decide) ?_
  refine k_iaddN eL_law_1398 ?_
  refine k_scr eL_law_1399 (by omega) hL ?_
  refine k_i2l eL_law_1400 ?_
  refine k_bipush (v := nI 32) eL_law_1401 (by decide) ?_
  refine k_lshl eL_law_1403 ?_
  refine k_aloadT eL_law_1404 rfl ?_
  refine k_iload_n eL_law_1405 rfl ?_
  refine k_iconst (v := nI 4) eL_law_1406 (by decide) ?_
  refine k_iaddN eL_law_1407 ?_
  refine k_scr eL_law_1408 (by omega) hL ?_
  refine k_i2l eL_law_1409 ?_
  refine k_ldc2 (own := x.cls) (v := 4294967295) eL_law_1410 kL_170 rfl ?_
  refine k_land eL_law_1413 ?_
  refine k_lor eL_law_1414 ?_
  refine cVE1 (M' := MX11_put) eL_law_1415 mL_172 wX11_put vX11_put ⟨_, _, _, rfl, rfl, rfl⟩ rfl hc (by omega) (Nat.le_of_ble_eq_true rfl) ?_
  intro v S1 hQ
  refine k_aload_n eL_law_1418 rfl ?_
  refine k_aloadT eL_law_1419 rfl ?_
  refine k_iload_n eL_law_1420 rfl ?_
  refine k_iconst (v := nI 1) eL_law_1421 (by decide) ?_
  refine k_iaddN eL_law_1422 ?_
  refine k_scr eL_law_1423 (by omega) hL ?_
  refine k_aloadT eL_law_1424 rfl ?_
  refine k_iload_n eL_law_1425 rfl ?_
  refine k_iconst (v := nI 2) eL_law_1426 (by decide) ?_
  refine k_iaddN eL_law_1427 ?_
  refine k_scr eL_law_1428 (by omega) hL ?_
  refine k_aloadT eL_law_1429 rfl ?_
  refine k_iload_n eL_law_1430 rfl ?_
  refine k_iconst (v := nI 3) eL_law_1431 (by decide) ?_
  refine k_iaddN eL_law_1432 ?_
  refine k_scr eL_law_1433 (by omega) hL ?_
  refine k_i2l eL_law_1434 ?_
  refine k_bipush (v := nI 32) eL_law_1435 (by decide) ?_
  refine k_lshl eL_law_1437 ?_
  refine k_aloadT eL_law_1438 rfl ?_
  refine k_iload_n eL_law_1439 rfl ?_
  refine k_iconst (v := nI 4) eL_law_1440 (by decide) ?_
  refine k_iaddN eL_law_1441 ?_
  refine k_scr eL_law_1442 (by omega) hL ?_
  refine k_i2l eL_law_1443 ?_
  refine k_ldc2 (own := x.cls) (v := 4294967295) eL_law_1444 kL_170 rfl ?_
  refine k_land eL_law_1447 ?_
  refine k_lor eL_law_1448 ?_
  refine cVE1 (M' := MX12_put) eL_law_1449 mL_176 wX12_put vX12_put ⟨_, _, _, rfl, rfl, rfl⟩ rfl (hm v S1 hQ) (by omega) (Nat.le_of_ble_eq_true rfl) ?_
  rintro v2 S2 ⟨rfl, hR⟩
  exact k_icmp_eq 1610 eL_law_1452 (by decide) (fun _ => kx S2 hR) (fun c => absurd rfl c)
theorem lw_c1457 {nm : String} {L : Nat} {xs : Nat → Int32} {j : Nat} {S : k_S} {Po : Option Value → k_H → Prop} (hj : j + 6 ≤ L) (hL : L ≤ 3072) (h : RRx S) (kx : ∀ S2, RRx S2 → AW (some (L, xs)) (Mn nm) 100 0 0 1610 [.retAddr 0, .ref 0, .ref 52, .int (nI j)] [] (hp S2) Po) : AW (some (L, xs)) (Mn nm) 100 0 0 1457 [.retAddr 0, .ref 0, .ref 52, .int (nI j)] [] (hp S) Po := by
  obtain ⟨dc, dm, Q, h1, h2, hc, hm⟩ := bothJ rfl (bo_element h (xs (j + 1)) (xs (j + 2)))
  refine k_aload_n eL_law_1457 rfl ?_
  refine k_aloadT eL_law_1458 rfl ?_
  refine k_iload_n eL_law_1459 rfl ?_
  refine k_iconst (v := nI 1) eL_law_1460 (by decide) ?_
  refine k_iaddN eL_law_1461 ?_
  refine k_scr eL_law_1462 (by omega) hL ?_
  refine k_aloadT eL_law_1463 rfl ?_
  refine k_iload_n eL_law_1464 rfl ?_
  refine k_iconst (v := nI 2) eL_law_1465 (by decide) ?_
  refine k_iaddN eL_law_1466 ?_
  refine k_scr eL_law_1467 (by omega) hL ?_
  refine cVE1J (M' := MX11_element) eL_law_1468 mL_177 wX11_element vX11_element ⟨_, _, _, rfl, rfl, rfl⟩ rfl hc (by omega) (Nat.le_of_ble_eq_true rfl) ?_
  intro v S1 hQ
  refine k_aload_n eL_law_1471 rfl ?_
  refine k_aloadT eL_law_1472 rfl ?_
  refine k_iload_n eL_law_1473 rfl ?_
  refine k_iconst (v := nI 1) eL_law_1474 (by decide) ?_
  refine k_iaddN eL_law_1475 ?_
  refine k_scr eL_law_1476 (by omega) hL ?_
  refine k_aloadT eL_law_1477 rfl ?_
  refine k_iload_n eL_law_1478 rfl ?_
  refine k_iconst (v := nI 2) eL_law_1479 (by decide) ?_
  refine k_iaddN eL_law_1480 ?_
  refine k_scr eL_law_1481 (by omega) hL ?_
  refine cVE1J (M' := MX12_element) eL_law_1482 mL_181 wX12_element vX12_element ⟨_, _, _, rfl, rfl, rfl⟩ rfl (hm v S1 hQ) (by omega) (Nat.le_of_ble_eq_true rfl) ?_
  rintro v2 S2 ⟨rfl, hR⟩
  refine k_lcmp eL_law_1485 ?_
  exact k_if_eq 1610 eL_law_1486 (by decide) (fun _ => kx S2 hR) (fun c => absurd ((lg_cmp_0 _ _).mpr rfl) c)
theorem lw_c1491 {nm : String} {L : Nat} {xs : Nat → Int32} {j : Nat} {S : k_S} {Po : Option Value → k_H → Prop} (hj : j + 6 ≤ L) (hL : L ≤ 3072) (h : RRx S) (kx : ∀ S2, RRx S2 → AW (some (L, xs)) (Mn nm) 100 0 0 1610 [.retAddr 0, .ref 0, .ref 52, .int (nI j)] [] (hp S2) Po) : AW (some (L, xs)) (Mn nm) 100 0 0 1491 [.retAddr 0, .ref 0, .ref 52, .int (nI j)] [] (hp S) Po := by
  obtain ⟨dc, dm, Q, h1, h2, hc, hm⟩ := bothI rfl (bo_shift h (xs (j + 1)) (xs (j + 2)) (xs (j + 3)) (xs (j + 4)) (xs (j + 5)))
  refine k_aload_n eL_law_1491 rfl ?_
  refine k_aloadT eL_law_1492 rfl ?_
  refine k_iload_n eL_law_1493 rfl ?_
  refine k_iconst (v := nI 1) eL_law_1494 (by decide) ?_
  refine k_iaddN eL_law_1495 ?_
  refine k_scr eL_law_1496 (by omega) hL ?_
  refine k_aloadT eL_law_1497 rfl ?_
  refine k_iload_n eL_law_1498 rfl ?_
  refine k_iconst (v := nI 2) eL_law_1499 (by decide) ?_
  refine k_iaddN eL_law_1500 ?_
  refine k_scr eL_law_1501 (by omega) hL ?_
  refine k_aloadT eL_law_1502 rfl ?_
  refine k_iload_n eL_law_1503 rfl ?_
  refine k_iconst (v := nI 3) eL_law_1504 (by decide) ?_
  refine k_iaddN eL_law_1505 ?_
  refine k_scr eL_law_1506 (by omega) hL ?_
  refine k_aloadT eL_law_1507 rfl ?_
  refine k_iload_n eL_law_1508 rfl ?_
  refine k_iconst (v := nI 4) eL_law_1509 (by decide) ?_
  refine k_iaddN eL_law_1510 ?_
  refine k_scr eL_law_1511 (by omega) hL ?_
  refine k_aloadT eL_law_1512 rfl ?_
  refine k_iload_n eL_law_1513 rfl ?_
  refine k_iconst (v := nI 5) eL_law_1514 (by decide) ?_
  refine k_iaddN eL_law_1515 ?_
  refine k_scr eL_law_1516 (by omega) hL ?_
  refine cVE1 (M' := MX11_shift) eL_law_1517 mL_182 wX11_shift vX11_shift ⟨_, _, _, rfl, rfl, rfl⟩ rfl hc (by omega) (Nat.le_of_ble_eq_true rfl) ?_
  intro v S1 hQ
  refine k_aload_n eL_law_1520 rfl ?_
  refine k_aloadT eL_law_1521 rfl ?_
  refine k_iload_n eL_law_1522 rfl ?_
  refine k_iconst (v := nI 1) eL_law_1523 (by decide) ?_
  refine k_iaddN eL_law_1524 ?_
  refine k_scr eL_law_1525 (by omega) hL ?_
  refine k_aloadT eL_law_1526 rfl ?_
  refine k_iload_n eL_law_1527 rfl ?_
  refine k_iconst (v := nI 2) eL_law_1528 (by decide) ?_
  refine k_iaddN eL_law_1529 ?_
  refine k_scr eL_law_1530 (by omega) hL ?_
  refine k_aloadT eL_law_1531 rfl ?_
  refine k_iload_n eL_law_1532 rfl ?_
  refine k_iconst (v := nI 3) eL_law_1533 (by decide) ?_
  refine k_iaddN eL_law_1534 ?_
  refine k_scr eL_law_1535 (by omega) hL ?_
  refine k_aloadT eL_law_1536 rfl ?_
  refine k_iload_n eL_law_1537 rfl ?_
  refine k_iconst (v := nI 4) eL_law_1538 (by decide) ?_
  refine k_iaddN eL_law_1539 ?_
  refine k_scr eL_law_1540 (by omega) hL ?_
  refine k_aloadT eL_law_1541 rfl ?_
  refine k_iload_n eL_law_1542 rfl ?_
  refine k_iconst (v := nI 5) eL_law_1543 (by decide) ?_
  refine k_iaddN eL_law_1544 ?_
  refine k_scr eL_law_1545 (by omega) hL ?_
  refine cVE1 (M' := MX12_shift) eL_law_1546 mL_186 wX12_shift vX12_shift ⟨_, _, _, rfl, rfl, rfl⟩ rfl (hm v S1 hQ) (by omega) (Nat.le_of_ble_eq_true rfl) ?_
  rintro v2 S2 ⟨rfl, hR⟩
  exact k_icmp_eq 1610 eL_law_1549 (by decide) (fun _ => kx S2 hR) (fun c => absurd rfl c)
theorem lw_c1554 {nm : String} {L : Nat} {xs : Nat → Int32} {j : Nat} {S : k_S} {Po : Option Value → k_H → Prop} (hj : j + 6 ≤ L) (hL : L ≤ 3072) (h : RRx S) (kx : ∀ S2, RRx S2 → AW (some (L, xs)) (Mn nm) 100 0 0 1610 [.retAddr 0, .ref 0, .ref 52, .int (nI j)] [] (hp S2) Po) : AW (some (L, xs)) (Mn nm) 100 0 0 1554 [.retAddr 0, .ref 0, .ref 52, .int (nI j)] [] (hp S) Po := by
  obtain ⟨dc, dm, Q, h1, h2, hc, hm⟩ := bothI rfl (bo_taken h (xs (j + 1)) (xs (j + 2)))
  refine k_aload_n eL_law_1554 rfl ?_
  refine k_aloadT eL_law_1555 rfl ?_
  refine k_iload_n eL_law_1556 rfl ?_
  refine k_iconst (v := nI 1) eL_law_1557 (by decide) ?_
  refine k_iaddN eL_law_1558 ?_
  refine k_scr eL_law_1559 (by omega) hL ?_
  refine k_aloadT eL_law_1560 rfl ?_
  refine k_iload_n eL_law_1561 rfl ?_
  refine k_iconst (v := nI 2) eL_law_1562 (by decide) ?_
  refine k_iaddN eL_law_1563 ?_
  refine k_scr eL_law_1564 (by omega) hL ?_
  refine cVE1 (M' := MX11_taken) eL_law_1565 mL_187 wX11_taken vX11_taken ⟨_, _, _, rfl, rfl, rfl⟩ rfl hc (by omega) (Nat.le_of_ble_eq_true rfl) ?_
  intro v S1 hQ
  refine k_aload_n eL_law_1568 rfl ?_
  refine k_aloadT eL_law_1569 rfl ?_
  refine k_iload_n eL_law_1570 rfl ?_
  refine k_iconst (v := nI 1) eL_law_1571 (by decide) ?_
  refine k_iaddN eL_law_1572 ?_
  refine k_scr eL_law_1573 (by omega) hL ?_
  refine k_aloadT eL_law_1574 rfl ?_
  refine k_iload_n eL_law_1575 rfl ?_
  refine k_iconst (v := nI 2) eL_law_1576 (by decide) ?_
  refine k_iaddN eL_law_1577 ?_
  refine k_scr eL_law_1578 (by omega) hL ?_
  refine cVE1 (M' := MX12_taken) eL_law_1579 mL_190 wX12_taken vX12_taken ⟨_, _, _, rfl, rfl, rfl⟩ rfl (hm v S1 hQ) (by omega) (Nat.le_of_ble_eq_true rfl) ?_
  rintro v2 S2 ⟨rfl, hR⟩
  exact k_icmp_eq 1610 eL_law_1582 (by decide) (fun _ => kx S2 hR) (fun c => absurd rfl c)
theorem lw_c1587 {nm : String} {L : Nat} {xs : Nat → Int32} {j : Nat} {S : k_S} {Po : Option Value → k_H → Prop} (hj : j + 6 ≤ L) (hL : L ≤ 3072) (h : RRx S) (kx : ∀ S2, RRx S2 → AW (some (L, xs)) (Mn nm) 100 0 0 1610 [.retAddr 0, .ref 0, .ref 52, .int (nI j)] [] (hp S2) Po) : AW (some (L, xs)) (Mn nm) 100 0 0 1587 [.retAddr 0, .ref 0, .ref 52, .int (nI j)] [] (hp S) Po := by
  obtain ⟨dc, dm, Q, h1, h2, hc, hm⟩ := bothI rfl (bo_count h (xs (j + 1)))
  refine k_aload_n eL_law_1587 rfl ?_
  refine k_aloadT eL_law_1588 rfl ?_
  refine k_iload_n eL_law_1589 rfl ?_
  refine k_iconst (v := nI 1) eL_law_1590 (by decide) ?_
  refine k_iaddN eL_law_1591 ?_
  refine k_scr eL_law_1592 (by omega) hL ?_
  refine cVE1 (M' := MX11_count) eL_law_1593 mL_191 wX11_count vX11_count ⟨_, _, _, rfl, rfl, rfl⟩ rfl hc (by omega) (Nat.le_of_ble_eq_true rfl) ?_
  intro v S1 hQ
  refine k_aload_n eL_law_1596 rfl ?_
  refine k_aloadT eL_law_1597 rfl ?_
  refine k_iload_n eL_law_1598 rfl ?_
  refine k_iconst (v := nI 1) eL_law_1599 (by decide) ?_
  refine k_iaddN eL_law_1600 ?_
  refine k_scr eL_law_1601 (by omega) hL ?_
  refine cVE1 (M' := MX12_count) eL_law_1602 mL_194 wX12_count vX12_count ⟨_, _, _, rfl, rfl, rfl⟩ rfl (hm v S1 hQ) (by omega) (Nat.le_of_ble_eq_true rfl) ?_
  rintro v2 S2 ⟨rfl, hR⟩
  exact k_icmp_eq 1610 eL_law_1605 (by decide) (fun _ => kx S2 hR) (fun c => absurd rfl c)
/-- the calls of a script, one after another, with what holds -/
theorem law_loop {nm : String} {L : Nat} {xs : Nat → Int32} (hL : L ≤ 3072) : ∀ (n j : Nat) (S : k_S), L ≤ n + j → j ≤ L → RRx S → AW (some (L, xs)) (Mn nm) 100 0 0 18 [.retAddr 0, .ref 0, .ref 52, .int (nI j)] [] (hp S) (fun r _ => r = some (.int (nI 1))) := by
  intro n
  induction n with
  | zero =>
    intro j S h1 h2 h
    refine k_iload_n eL_law_18 rfl ?_
    refine k_aloadT eL_law_19 rfl ?_
    refine k_alenT eL_law_20 (fun q => by cases q) ?_
    refine k_topi (nI L) rfl ?_
    refine k_bipush (v := nI 6) eL_law_21 (by decide) ?_
    refine k_isub eL_law_23 ?_
    refine k_icmp_gt 1616 eL_law_24 (by decide) (fun c => ?_) (fun c => absurd ((sub_ltN (by omega) (by omega) (by omega)).mpr (by omega)) c)
    refine k_iconst (v := nI 1) eL_law_1616 (by decide) ?_
    exact k_ireturn eL_law_1617 rfl rfl rfl
  | succ n ih =>
    intro j S h1 h2 h
    refine k_iload_n eL_law_18 rfl ?_
    refine k_aloadT eL_law_19 rfl ?_
    refine k_alenT eL_law_20 (fun q => by cases q) ?_
    refine k_topi (nI L) rfl ?_
    refine k_bipush (v := nI 6) eL_law_21 (by decide) ?_
    refine k_isub eL_law_23 ?_
    refine k_icmp_gt 1616 eL_law_24 (by decide) (fun c => ?_) (fun c => ?_)
    · refine k_iconst (v := nI 1) eL_law_1616 (by decide) ?_
      exact k_ireturn eL_law_1617 rfl rfl rfl
    have hj2 : j + 6 ≤ L := by
      have q := Nat.le_of_not_lt (fun z => c ((sub_ltN (a := L) (b := 6) (j := j) (by omega) (by omega) (by omega)).mpr z))
      omega
    have kx : ∀ S2, RRx S2 → AW (some (L, xs)) (Mn nm) 100 0 0 1610 [.retAddr 0, .ref 0, .ref 52, .int (nI j)] [] (hp S2) (fun r _ => r = some (.int (nI 1))) := by
      intro S2 hR
      refine k_iincN (g := 6) (a := j) (L2 := [_, _, _, _]) eL_law_1610 (Nat.le_of_ble_eq_true rfl) rfl rfl ?_
      refine k_goto 18 eL_law_1613 (by decide) ?_
      exact ih (j + 6) S2 (by omega) hj2 hR
    refine k_aloadT eL_law_27 rfl ?_
    refine k_iload_n eL_law_28 rfl ?_
    refine k_scr eL_law_29 (by omega) hL ?_
    refine k_bipush (v := nI 63) eL_law_30 (by decide) ?_
    refine k_iand eL_law_32 ?_
    obtain ⟨k, hk, ek⟩ := and63 (xs j)
    refine k_topi (nI k) ek ?_
    rcases (by omega : k = 0 ∨ k = 1 ∨ k = 2 ∨ k = 3 ∨ k = 4 ∨ k = 5 ∨ k = 6 ∨ k = 7 ∨ k = 8 ∨ k = 9 ∨ k = 10 ∨ k = 11 ∨ k = 12 ∨ k = 13 ∨ k = 14 ∨ k = 15 ∨ k = 16 ∨ k = 17 ∨ k = 18 ∨ k = 19 ∨ k = 20 ∨ k = 21 ∨ k = 22 ∨ k = 23 ∨ k = 24 ∨ k = 25 ∨ k = 26 ∨ k = 27 ∨ k = 28 ∨ k = 29 ∨ k = 30 ∨ k = 31 ∨ k = 32 ∨ k = 33 ∨ k = 34 ∨ k = 35 ∨ k = 36 ∨ k = 37 ∨ k = 38 ∨ k = 39 ∨ k = 40 ∨ k = 41 ∨ k = 42 ∨ 43 ≤ k) with rfl | rfl | rfl | rfl | rfl | rfl | rfl | rfl | rfl | rfl | rfl | rfl | rfl | rfl | rfl | rfl | rfl | rfl | rfl | rfl | rfl | rfl | rfl | rfl | rfl | rfl | rfl | rfl | rfl | rfl | rfl | rfl | rfl | rfl | rfl | rfl | rfl | rfl | rfl | rfl | rfl | rfl | rfl | hk2
    · refine k_tabIn 220 (off := 187) eL_law_33 (by decide) (by decide) (by decide) (by decide) ?_
      exact lw_c220 hj2 hL h kx
    · refine k_tabIn 243 (off := 210) eL_law_33 (by decide) (by decide) (by decide) (by decide) ?_
      exact lw_c243 hj2 hL h kx
    · refine k_tabIn 286 (off := 253) eL_law_33 (by decide) (by decide) (by decide) (by decide) ?_
      exact lw_c286 hj2 hL h kx
    · refine k_tabIn 319 (off := 286) eL_law_33 (by decide) (by decide) (by decide) (by decide) ?_
      exact lw_c319 hj2 hL h kx
    · refine k_tabIn 352 (off := 319) eL_law_33 (by decide) (by decide) (by decide) (by decide) ?_
      exact lw_c352 hj2 hL h kx
    · refine k_tabIn 405 (off := 372) eL_law_33 (by decide) (by decide) (by decide) (by decide) ?_
      exact lw_c405 hj2 hL h kx
    · refine k_tabIn 448 (off := 415) eL_law_33 (by decide) (by decide) (by decide) (by decide) ?_
      exact lw_c448 hj2 hL h kx
    · refine k_tabIn 471 (off := 438) eL_law_33 (by decide) (by decide) (by decide) (by decide) ?_
      exact lw_c471 hj2 hL h kx
    · refine k_tabIn 504 (off := 471) eL_law_33 (by decide) (by decide) (by decide) (by decide) ?_
      exact lw_c504 hj2 hL h kx
    · refine k_tabIn 547 (off := 514) eL_law_33 (by decide) (by decide) (by decide) (by decide) ?_
      exact lw_c547 hj2 hL h kx
    · refine k_tabIn 580 (off := 547) eL_law_33 (by decide) (by decide) (by decide) (by decide) ?_
      exact lw_c580 hj2 hL h kx
    · refine k_tabIn 593 (off := 560) eL_law_33 (by decide) (by decide) (by decide) (by decide) ?_
      exact lw_c593 hj2 hL h kx
    · refine k_tabIn 626 (off := 593) eL_law_33 (by decide) (by decide) (by decide) (by decide) ?_
      exact lw_c626 hj2 hL h kx
    · refine k_tabIn 649 (off := 616) eL_law_33 (by decide) (by decide) (by decide) (by decide) ?_
      exact lw_c649 hj2 hL h kx
    · refine k_tabIn 692 (off := 659) eL_law_33 (by decide) (by decide) (by decide) (by decide) ?_
      exact lw_c692 hj2 hL h kx
    · refine k_tabIn 715 (off := 682) eL_law_33 (by decide) (by decide) (by decide) (by decide) ?_
      exact lw_c715 hj2 hL h kx
    · refine k_tabIn 738 (off := 705) eL_law_33 (by decide) (by decide) (by decide) (by decide) ?_
      exact lw_c738 hj2 hL h kx
    · refine k_tabIn 771 (off := 738) eL_law_33 (by decide) (by decide) (by decide) (by decide) ?_
      exact lw_c771 hj2 hL h kx
    · refine k_tabIn 804 (off := 771) eL_law_33 (by decide) (by decide) (by decide) (by decide) ?_
      exact lw_c804 hj2 hL h kx
    · refine k_tabIn 827 (off := 794) eL_law_33 (by decide) (by decide) (by decide) (by decide) ?_
      exact lw_c827 hj2 hL h kx
    · refine k_tabIn 860 (off := 827) eL_law_33 (by decide) (by decide) (by decide) (by decide) ?_
      exact lw_c860 hj2 hL h kx
    · refine k_tabIn 883 (off := 850) eL_law_33 (by decide) (by decide) (by decide) (by decide) ?_
      exact lw_c883 hj2 hL h kx
    · refine k_tabIn 906 (off := 873) eL_law_33 (by decide) (by decide) (by decide) (by decide) ?_
      exact lw_c906 hj2 hL h kx
    · refine k_tabIn 929 (off := 896) eL_law_33 (by decide) (by decide) (by decide) (by decide) ?_
      exact lw_c929 hj2 hL h kx
    · refine k_tabIn 962 (off := 929) eL_law_33 (by decide) (by decide) (by decide) (by decide) ?_
      exact lw_c962 hj2 hL h kx
    · refine k_tabIn 995 (off := 962) eL_law_33 (by decide) (by decide) (by decide) (by decide) ?_
      exact lw_c995 hj2 hL h kx
    · refine k_tabIn 1018 (off := 985) eL_law_33 (by decide) (by decide) (by decide) (by decide) ?_
      exact lw_c1018 hj2 hL h kx
    · refine k_tabIn 1051 (off := 1018) eL_law_33 (by decide) (by decide) (by decide) (by decide) ?_
      exact lw_c1051 hj2 hL h kx
    · refine k_tabIn 1074 (off := 1041) eL_law_33 (by decide) (by decide) (by decide) (by decide) ?_
      exact lw_c1074 hj2 hL h kx
    · refine k_tabIn 1107 (off := 1074) eL_law_33 (by decide) (by decide) (by decide) (by decide) ?_
      exact lw_c1107 hj2 hL h kx
    · refine k_tabIn 1150 (off := 1117) eL_law_33 (by decide) (by decide) (by decide) (by decide) ?_
      exact lw_c1150 hj2 hL h kx
    · refine k_tabIn 1193 (off := 1160) eL_law_33 (by decide) (by decide) (by decide) (by decide) ?_
      exact lw_c1193 hj2 hL h kx
    · refine k_tabIn 1206 (off := 1173) eL_law_33 (by decide) (by decide) (by decide) (by decide) ?_
      exact lw_c1206 hj2 hL h kx
    · refine k_tabIn 1219 (off := 1186) eL_law_33 (by decide) (by decide) (by decide) (by decide) ?_
      exact lw_c1219 hj2 hL h kx
    · refine k_tabIn 1242 (off := 1209) eL_law_33 (by decide) (by decide) (by decide) (by decide) ?_
      exact lw_c1242 hj2 hL h kx
    · refine k_tabIn 1285 (off := 1252) eL_law_33 (by decide) (by decide) (by decide) (by decide) ?_
      exact lw_c1285 hj2 hL h kx
    · refine k_tabIn 1308 (off := 1275) eL_law_33 (by decide) (by decide) (by decide) (by decide) ?_
      exact lw_c1308 hj2 hL h kx
    · refine k_tabIn 1341 (off := 1308) eL_law_33 (by decide) (by decide) (by decide) (by decide) ?_
      exact lw_c1341 hj2 hL h kx
    · refine k_tabIn 1384 (off := 1351) eL_law_33 (by decide) (by decide) (by decide) (by decide) ?_
      exact lw_c1384 hj2 hL h kx
    · refine k_tabIn 1457 (off := 1424) eL_law_33 (by decide) (by decide) (by decide) (by decide) ?_
      exact lw_c1457 hj2 hL h kx
    · refine k_tabIn 1491 (off := 1458) eL_law_33 (by decide) (by decide) (by decide) (by decide) ?_
      exact lw_c1491 hj2 hL h kx
    · refine k_tabIn 1554 (off := 1521) eL_law_33 (by decide) (by decide) (by decide) (by decide) ?_
      exact lw_c1554 hj2 hL h kx
    · refine k_tabIn 1587 (off := 1554) eL_law_33 (by decide) (by decide) (by decide) (by decide) ?_
      exact lw_c1587 hj2 hL h kx
    · refine k_tabOut 1610 eL_law_33 (Or.inr (by rw [nI_toInt (by omega)]; omega)) (by decide) ?_
      exact kx S h
theorem dvX11 : ∀ (Z : k_Z) (j : Nat), j < 16 → defaultValue (tyX11 j) = vp_V ([.null, .null, .null, .null, .null, .null, .null, .null, .null, .null, .null, .int 0, .null, .null, .int 0, .null].map (kb Z)) j := by
  intro Z j hj
  rcases (by omega : j = 0 ∨ j = 1 ∨ j = 2 ∨ j = 3 ∨ j = 4 ∨ j = 5 ∨ j = 6 ∨ j = 7 ∨ j = 8 ∨ j = 9 ∨ j = 10 ∨ j = 11 ∨ j = 12 ∨ j = 13 ∨ j = 14 ∨ j = 15) with rfl | rfl | rfl | rfl | rfl | rfl | rfl | rfl | rfl | rfl | rfl | rfl | rfl | rfl | rfl | rfl <;> rfl
theorem dvX12 : ∀ (Z : k_Z) (j : Nat), j < 49 → defaultValue (tyX12 j) = vp_V ([.int 0, .null, .null, .null, .int 0, .null, .null, .null, .null, .null, .null, .int 0, .null, .null, .null, .int 0, .null, .null, .int 0, .int 0, .null, .null, .null, .null, .null, .int 0, .int 0, .int 0, .null, .int 0, .null, .null, .null, .null, .null, .null, .null, .null, .int 0, .int 0, .int 0, .int 0, .null, .null, .null, .null, .null, .int 0, .null].map (kb Z)) j := by
  intro Z j hj
  rcases (by omega : j = 0 ∨ j = 1 ∨ j = 2 ∨ j = 3 ∨ j = 4 ∨ j = 5 ∨ j = 6 ∨ j = 7 ∨ j = 8 ∨ j = 9 ∨ j = 10 ∨ j = 11 ∨ j = 12 ∨ j = 13 ∨ j = 14 ∨ j = 15 ∨ j = 16 ∨ j = 17 ∨ j = 18 ∨ j = 19 ∨ j = 20 ∨ j = 21 ∨ j = 22 ∨ j = 23 ∨ j = 24 ∨ j = 25 ∨ j = 26 ∨ j = 27 ∨ j = 28 ∨ j = 29 ∨ j = 30 ∨ j = 31 ∨ j = 32 ∨ j = 33 ∨ j = 34 ∨ j = 35 ∨ j = 36 ∨ j = 37 ∨ j = 38 ∨ j = 39 ∨ j = 40 ∨ j = 41 ∨ j = 42 ∨ j = 43 ∨ j = 44 ∨ j = 45 ∨ j = 46 ∨ j = 47 ∨ j = 48) with rfl | rfl | rfl | rfl | rfl | rfl | rfl | rfl | rfl | rfl | rfl | rfl | rfl | rfl | rfl | rfl | rfl | rfl | rfl | rfl | rfl | rfl | rfl | rfl | rfl | rfl | rfl | rfl | rfl | rfl | rfl | rfl | rfl | rfl | rfl | rfl | rfl | rfl | rfl | rfl | rfl | rfl | rfl | rfl | rfl | rfl | rfl | rfl | rfl <;> rfl
theorem law_all {nm : String} {L : Nat} {xs : Nat → Int32} (hL : L ≤ 3072) : AW (some (L, xs)) (Mn nm) 100 87 8260 0 [.retAddr 0, .null, .null, .null] [] [] (fun r _ => r = some (.int (nI 1))) := by
  refine k_new (fs := [.null, .null, .null, .null, .null, .null, .null, .null, .null, .null, .null, .int 0, .null, .null, .int 0, .null]) (bc2 := 86) (bs2 := 8244) (h2' := hk_st) (a := 0) eL_law_0 clX11 cL_7 dvX11 ⟨rfl, rfl⟩ rfl rfl ?_
  refine k_dup eL_law_3 rfl ?_
  refine k_callI (M' := MX11_init) (bc' := 51) (bs' := 4399) (bc2 := 35) (bs2 := 3845) eL_law_4 mL_9 wX11_init iX11_init rfl kX11 (by decide) ⟨rfl, rfl⟩ (by decide) ?_
  rintro r h' ⟨rfl, rfl⟩
  refine k_astore_n (L2 := [_, _, _, _]) eL_law_7 (Nat.le_of_ble_eq_true rfl) rfl ?_
  refine k_new (fs := [.int 0, .null, .null, .null, .int 0, .null, .null, .null, .null, .null, .null, .int 0, .null, .null, .null, .int 0, .null, .null, .int 0, .int 0, .null, .null, .null, .null, .null, .int 0, .int 0, .int 0, .null, .int 0, .null, .null, .null, .null, .null, .null, .null, .null, .int 0, .int 0, .int 0, .int 0, .null, .null, .null, .null, .null, .int 0, .null]) (bc2 := 34) (bs2 := 3796) (h2' := hk_m2) (a := 52) eL_law_8 clX12 cL_10 dvX12 ⟨rfl, rfl⟩ rfl rfl ?_
  refine k_dup eL_law_11 rfl ?_
  refine k_callI (M' := MX12_init) (bc' := 34) (bs' := 3796) (bc2 := 0) (bs2 := 0) eL_law_12 mL_12 wX12_init iX12_init rfl kX12 (by decide) ⟨rfl, rfl⟩ (by decide) ?_
  rintro r h' ⟨rfl, rfl⟩
  refine k_astore_n (L2 := [_, _, _, _]) eL_law_15 (Nat.le_of_ble_eq_true rfl) rfl ?_
  refine k_iconst (v := nI 0) eL_law_16 (by decide) ?_
  refine k_istore_n (L2 := [_, _, _, _]) eL_law_17 (Nat.le_of_ble_eq_true rfl) rfl ?_
  exact law_loop hL L 0 S00 (by omega) (by omega) rr_00
