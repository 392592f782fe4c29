theorem l303 {nm : String} {Ns : Nat} {xs : Nat → Int32} (hN : Ns ≤ 260) {S : k_S} {g : k_H} (hF : LF Ns xs S (plN Ns xs)) {n : Nat} (hn : S.1 1656 = nI n) (h40 : n ≤ 40) : AW (some (Ns, xs)) (Mn nm) 12 0 0 303 [.retAddr 0, .ref 0, .null, .null, .null, .null, .null, .null, .null, .null] [] (hp S ++ g) PoL := by
  refine k_iconst (v := nI 0) eL_law_303 (by decide) ?_
  refine k_istore_n (L2 := [_, _, _, _, _, _, _, _, _, _]) eL_law_304 (Nat.le_of_ble_eq_true rfl) rfl ?_
  refine k_iconst (v := nI 0) eL_law_305 (by decide) ?_
  refine k_istore_n (L2 := [_, _, _, _, _, _, _, _, _, _]) eL_law_306 (Nat.le_of_ble_eq_true rfl) rfl ?_
  refine k_iconst (v := nI 0) eL_law_307 (by decide) ?_
  refine k_istore (L2 := [_, _, _, _, _, _, _, _, _, _]) eL_law_308 (Nat.le_of_ble_eq_true rfl) rfl ?_
  exact l310 hN hF hn h40 120 0 (by omega)
theorem t273 {nm : String} {Ns : Nat} {xs : Nat → Int32} (hN : Ns ≤ 260) {S : k_S} {g : k_H} (hF : LF Ns xs S (plN Ns xs)) {r d : Nat} (hr : r < 2) (hd : d < 120) (k64 : AW (some (Ns, xs)) (Mn nm) 12 0 0 64 [.retAddr 0, .ref 0, .int (nI r), .int (nI (d + 3)), .null, .null, .null, .null, .null, .null] [] (hp S ++ g) PoL) : AW (some (Ns, xs)) (Mn nm) 12 0 0 273 [.retAddr 0, .ref 0, .int (nI r), .int (nI d), .null, .null, .int (((ldL Ns xs (plN Ns xs) r d (d + 1)).1)), .null, .null, .null] [] (hp S ++ g) PoL := by
  refine k_aload_n eL_law_273 rfl ?_
  refine k_sipush (v := nI 1000) eL_law_274 (by decide) ?_
  refine k_iload_n eL_law_277 rfl ?_
  refine k_imulN eL_law_278 ?_
  refine k_iload_n eL_law_279 rfl ?_
  refine k_iaddN eL_law_280 ?_
  refine cG1 (M' := MX11_led) eL_law_281 mL_128 wX11_led vX11_led ⟨_, _, _, rfl, rfl, rfl⟩ rfl (pX11_led (S := S) rfl hF.pl.1 hF.2.1 (by decide) (nI (1000 * r + d))) (by decide) (Nat.le_of_ble_eq_true rfl) ?_
  refine k_topi (((ldL Ns xs (plN Ns xs) r d (d + 1)).1)) (aLed_L hF hr hd) ?_
  refine k_iload eL_law_284 rfl ?_
  refine k_icmp_eq 291 eL_law_286 (by decide) (fun c_286 => ?_) (fun c_286 => by exact absurd rfl c_286)
  refine k_iincN (g := 3) (a := d) (L2 := [_, _, _, _, _, _, _, _, _, _]) eL_law_291 (Nat.le_of_ble_eq_true rfl) rfl rfl ?_
  refine k_goto 64 eL_law_294 (by decide) ?_
  refine k_forget 6 (L2 := [_, _, _, _, _, _, _, _, _, _]) rfl ?_
  exact k64
set_option maxHeartbeats 2000000 in
theorem l229 {nm : String} {Ns : Nat} {xs : Nat → Int32} (hN : Ns ≤ 260) {S : k_S} {g : k_H} (hF : LF Ns xs S (plN Ns xs)) {r d : Nat} (hr : r < 2) (hd : d < 120) (k64 : AW (some (Ns, xs)) (Mn nm) 12 0 0 64 [.retAddr 0, .ref 0, .int (nI r), .int (nI (d + 3)), .null, .null, .null, .null, .null, .null] [] (hp S ++ g) PoL) : ∀ (n9 e : Nat), e + n9 = d + 1 → AW (some (Ns, xs)) (Mn nm) 12 0 0 229 [.retAddr 0, .ref 0, .int (nI r), .int (nI d), .null, .null, .int (((ldL Ns xs (plN Ns xs) r d e).1)), .int (((ldL Ns xs (plN Ns xs) r d e).2)), .int (nI e), .null] [] (hp S ++ g) PoL := by
  intro n9
  induction n9 with
  | zero =>
    intro e hj
    obtain rfl : e = d + 1 := by omega
    refine k_iload eL_law_229 rfl ?_
    refine k_iload_n eL_law_231 rfl ?_
    refine k_icmp_gtN 273 eL_law_232 (by decide) (by omega) (by omega) (fun c_232 => ?_) (fun c_232 => by exfalso; omega)
    refine k_forget 7 (L2 := [_, _, _, _, _, _, _, _, _, _]) rfl ?_
    refine k_forget 8 (L2 := [_, _, _, _, _, _, _, _, _, _]) rfl ?_
    exact t273 hN hF hr hd k64
  | succ n9 ih =>
    intro e hj
    have hp := b_pl Ns xs e
    refine k_iload eL_law_229 rfl ?_
    refine k_iload_n eL_law_231 rfl ?_
    refine k_icmp_gtN 273 eL_law_232 (by decide) (by omega) (by omega) (fun c_232 => by exfalso; omega) (fun c_232 => ?_)
    refine k_aloadT eL_law_235 rfl ?_
    refine k_iload_n eL_law_236 rfl ?_
    refine k_aloadT eL_law_237 rfl ?_
    refine k_iload eL_law_238 rfl ?_
    refine k_callSX (M' := ML_plan) (bc' := 0) (bs' := 0) (bc2 := 0) (bs2 := 0) eL_law_240 mL_52 wL_plan sL_plan rfl (pL_plan (d := e) hN (by omega)) (by decide) ⟨rfl, rfl⟩ (Nat.le_of_ble_eq_true rfl) ?_
    rintro r h1 ⟨rfl, e1⟩
    obtain rfl := e1.symm
    refine k_iload_n eL_law_243 rfl ?_
    refine k_iload eL_law_244 rfl ?_
    refine k_isubN eL_law_246 (by omega) ?_
    refine k_callSX (M' := ML_points) (bc' := 0) (bs' := 0) (bc2 := 0) (bs2 := 0) eL_law_247 mL_109 wL_points sL_points rfl (pL_points (r := r) (w := plN Ns xs e) (k := d - e) hN hr (by omega) (by omega)) (by decide) ⟨rfl, rfl⟩ (Nat.le_of_ble_eq_true rfl) ?_
    rintro r h1 ⟨rfl, e1⟩
    obtain rfl := e1.symm
    refine k_istore (L2 := [_, _, _, _, _, _, _, _, _, _]) eL_law_250 (Nat.le_of_ble_eq_true rfl) rfl ?_
    refine k_iload eL_law_252 rfl ?_
    refine k_iload eL_law_254 rfl ?_
    refine k_icmp_le 267 eL_law_256 (by decide) (fun c_256 => ?_) (fun c_256 => ?_)
    · refine k_iincN (g := 1) (a := e) (L2 := [_, _, _, _, _, _, _, _, _, _]) eL_law_267 (Nat.le_of_ble_eq_true rfl) rfl rfl ?_
      refine k_goto 229 eL_law_270 (by decide) ?_
      refine k_forget 9 (L2 := [_, _, _, _, _, _, _, _, _, _]) rfl ?_
      have q := ih (e + 1) (by omega)
      rw [ldL] at q
      first | rw [if_neg (Int32.not_lt.mpr c_256)] at q | rw [if_pos (Int32.not_le.mp c_256)] at q
      exact q
    refine k_iload eL_law_259 rfl ?_
    refine k_istore (L2 := [_, _, _, _, _, _, _, _, _, _]) eL_law_261 (Nat.le_of_ble_eq_true rfl) rfl ?_
    refine k_iload eL_law_263 rfl ?_
    refine k_istore (L2 := [_, _, _, _, _, _, _, _, _, _]) eL_law_265 (Nat.le_of_ble_eq_true rfl) rfl ?_
    refine k_iincN (g := 1) (a := e) (L2 := [_, _, _, _, _, _, _, _, _, _]) eL_law_267 (Nat.le_of_ble_eq_true rfl) rfl rfl ?_
    refine k_goto 229 eL_law_270 (by decide) ?_
    refine k_forget 9 (L2 := [_, _, _, _, _, _, _, _, _, _]) rfl ?_
    have q := ih (e + 1) (by omega)
    rw [ldL] at q
    first | rw [if_neg (Int32.not_lt.mpr c_256)] at q | rw [if_pos (Int32.not_le.mp c_256)] at q
    exact q
theorem t163 {nm : String} {Ns : Nat} {xs : Nat → Int32} (hN : Ns ≤ 260) {S : k_S} {g : k_H} (hF : LF Ns xs S (plN Ns xs)) {r d : Nat} (hr : r < 2) (hd : d < 120) (k64 : AW (some (Ns, xs)) (Mn nm) 12 0 0 64 [.retAddr 0, .ref 0, .int (nI r), .int (nI (d + 3)), .null, .null, .null, .null, .null, .null] [] (hp S ++ g) PoL) : AW (some (Ns, xs)) (Mn nm) 12 0 0 163 [.retAddr 0, .ref 0, .int (nI r), .int (nI d), .int ((sBk Ns xs (plN Ns xs) r d (d + 1))), .int ((tBk Ns xs (plN Ns xs) r d (d + 1))), .null, .null, .null, .null] [] (hp S ++ g) PoL := by
  refine k_aload_n eL_law_163 rfl ?_
  refine k_sipush (v := nI 1000) eL_law_164 (by decide) ?_
  refine k_iload_n eL_law_167 rfl ?_
  refine k_imulN eL_law_168 ?_
  refine k_iload_n eL_law_169 rfl ?_
  refine k_iaddN eL_law_170 ?_
  refine k_iconst (v := nI 1) eL_law_171 (by decide) ?_
  refine cG1 (M' := MX11_fit) eL_law_172 mL_125 wX11_fit vX11_fit ⟨_, _, _, rfl, rfl, rfl⟩ rfl (pX11_fit (S := S) rfl hF.pl.1 hF.2.1 (by decide) (nI (1000 * r + d)) (nI 1)) (by decide) (Nat.le_of_ble_eq_true rfl) ?_
  refine k_topi ((sBk Ns xs (plN Ns xs) r d (d + 1))) (aFit_1 hF hr hd) ?_
  refine k_iload eL_law_175 rfl ?_
  refine k_icmp_ne 217 eL_law_177 (by decide) (fun c_177 => by exact absurd rfl c_177) (fun c_177 => ?_)
  refine k_aload_n eL_law_180 rfl ?_
  refine k_sipush (v := nI 1000) eL_law_181 (by decide) ?_
  refine k_iload_n eL_law_184 rfl ?_
  refine k_imulN eL_law_185 ?_
  refine k_iload_n eL_law_186 rfl ?_
  refine k_iaddN eL_law_187 ?_
  refine k_iconst (v := nI 2) eL_law_188 (by decide) ?_
  refine cG1 (M' := MX11_fit) eL_law_189 mL_125 wX11_fit vX11_fit ⟨_, _, _, rfl, rfl, rfl⟩ rfl (pX11_fit (S := S) rfl hF.pl.1 hF.2.1 (by decide) (nI (1000 * r + d)) (nI 2)) (by decide) (Nat.le_of_ble_eq_true rfl) ?_
  refine k_topi ((tBk Ns xs (plN Ns xs) r d (d + 1))) (aFit_2 hF hr hd) ?_
  refine k_iload eL_law_192 rfl ?_
  refine k_icmp_ne 217 eL_law_194 (by decide) (fun c_194 => by exact absurd rfl c_194) (fun c_194 => ?_)
  refine k_aload_n eL_law_197 rfl ?_
  refine k_sipush (v := nI 1000) eL_law_198 (by decide) ?_
  refine k_iload_n eL_law_201 rfl ?_
  refine k_imulN eL_law_202 ?_
  refine k_iload_n eL_law_203 rfl ?_
  refine k_iaddN eL_law_204 ?_
  refine k_iconst (v := nI 0) eL_law_205 (by decide) ?_
  refine cG1 (M' := MX11_fit) eL_law_206 mL_125 wX11_fit vX11_fit ⟨_, _, _, rfl, rfl, rfl⟩ rfl (pX11_fit (S := S) rfl hF.pl.1 hF.2.1 (by decide) (nI (1000 * r + d)) (nI 0)) (by decide) (Nat.le_of_ble_eq_true rfl) ?_
  refine k_topi (((sBk Ns xs (plN Ns xs) r d (d + 1)) - (tBk Ns xs (plN Ns xs) r d (d + 1)))) ((aFit_0 hF.2.1 hr hd).trans (fitv_L hF hr hd)) ?_
  refine k_iload eL_law_209 rfl ?_
  refine k_iload eL_law_211 rfl ?_
  refine k_isub eL_law_213 ?_
  refine k_icmp_eq 219 eL_law_214 (by decide) (fun c_214 => ?_) (fun c_214 => by exact absurd rfl c_214)
  refine k_bipush (v := (-2)) eL_law_219 (by decide) ?_
  refine k_istore (L2 := [_, _, _, _, _, _, _, _, _, _]) eL_law_221 (Nat.le_of_ble_eq_true rfl) rfl ?_
  refine k_iconst (v := nI 0) eL_law_223 (by decide) ?_
  refine k_istore (L2 := [_, _, _, _, _, _, _, _, _, _]) eL_law_224 (Nat.le_of_ble_eq_true rfl) rfl ?_
  refine k_iconst (v := nI 0) eL_law_226 (by decide) ?_
  refine k_istore (L2 := [_, _, _, _, _, _, _, _, _, _]) eL_law_227 (Nat.le_of_ble_eq_true rfl) rfl ?_
  refine k_forget 4 (L2 := [_, _, _, _, _, _, _, _, _, _]) rfl ?_
  refine k_forget 5 (L2 := [_, _, _, _, _, _, _, _, _, _]) rfl ?_
  exact l229 hN hF hr hd k64 (d + 1) 0 (by omega)
set_option maxHeartbeats 2000000 in
theorem l79 {nm : String} {Ns : Nat} {xs : Nat → Int32} (hN : Ns ≤ 260) {S : k_S} {g : k_H} (hF : LF Ns xs S (plN Ns xs)) {r d : Nat} (hr : r < 2) (hd : d < 120) (k64 : AW (some (Ns, xs)) (Mn nm) 12 0 0 64 [.retAddr 0, .ref 0, .int (nI r), .int (nI (d + 3)), .null, .null, .null, .null, .null, .null] [] (hp S ++ g) PoL) : ∀ (n9 k : Nat), k + n9 = d + 1 → AW (some (Ns, xs)) (Mn nm) 12 0 0 79 [.retAddr 0, .ref 0, .int (nI r), .int (nI d), .int ((sBk Ns xs (plN Ns xs) r d k)), .int ((tBk Ns xs (plN Ns xs) r d k)), .int (nI k), .null, .null, .null] [] (hp S ++ g) PoL := by
  intro n9
  induction n9 with
  | zero =>
    intro k hj
    obtain rfl : k = d + 1 := by omega
    refine k_iload eL_law_79 rfl ?_
    refine k_iload_n eL_law_81 rfl ?_
    refine k_icmp_gtN 163 eL_law_82 (by decide) (by omega) (by omega) (fun c_82 => ?_) (fun c_82 => by exfalso; omega)
    refine k_forget 6 (L2 := [_, _, _, _, _, _, _, _, _, _]) rfl ?_
    exact t163 hN hF hr hd k64
  | succ n9 ih =>
    intro k hj
    have hp := b_pl Ns xs (d - k)
    refine k_iload eL_law_79 rfl ?_
    refine k_iload_n eL_law_81 rfl ?_
    refine k_icmp_gtN 163 eL_law_82 (by decide) (by omega) (by omega) (fun c_82 => by exfalso; omega) (fun c_82 => ?_)
    refine k_aloadT eL_law_85 rfl ?_
    refine k_iload_n eL_law_86 rfl ?_
    refine k_iload eL_law_87 rfl ?_
    refine k_isubN eL_law_89 (by omega) ?_
    refine k_callSX (M' := ML_plan) (bc' := 0) (bs' := 0) (bc2 := 0) (bs2 := 0) eL_law_90 mL_52 wL_plan sL_plan rfl (pL_plan (d := d - k) hN (by omega)) (by decide) ⟨rfl, rfl⟩ (Nat.le_of_ble_eq_true rfl) ?_
    rintro r h1 ⟨rfl, e1⟩
    obtain rfl := e1.symm
    refine k_istore (L2 := [_, _, _, _, _, _, _, _, _, _]) eL_law_93 (Nat.le_of_ble_eq_true rfl) rfl ?_
    refine k_iload eL_law_95 rfl ?_
    refine k_if_neN 103 eL_law_97 (by decide) (by omega) (fun c_97 => ?_) (fun c_97 => ?_)
    · refine k_iload eL_law_103 rfl ?_
      refine k_aloadT eL_law_105 rfl ?_
      refine k_iload eL_law_106 rfl ?_
      refine k_callSX (M' := ML_strong) (bc' := 0) (bs' := 0) (bc2 := 0) (bs2 := 0) eL_law_108 mL_30 wL_strong sL_strong rfl (pL_strong (w := (plN Ns xs (d - k))) hN (by omega)) (by decide) ⟨rfl, rfl⟩ (Nat.le_of_ble_eq_true rfl) ?_
      rintro r h1 ⟨rfl, e1⟩
      obtain rfl := e1.symm
      refine k_aloadT eL_law_111 rfl ?_
      refine k_iload_n eL_law_112 rfl ?_
      refine k_callSX (M' := ML_gift) (bc' := 0) (bs' := 0) (bc2 := 0) (bs2 := 0) eL_law_113 mL_46 wL_gift sL_gift rfl (pL_gift (r := r) hN hr) (by decide) ⟨rfl, rfl⟩ (Nat.le_of_ble_eq_true rfl) ?_
      rintro r h1 ⟨rfl, e1⟩
      obtain rfl := e1.symm
      refine k_imul eL_law_116 ?_
      refine k_sipush (v := nI 1000) eL_law_117 (by decide) ?_
      refine k_idiv eL_law_120 (by decide) ?_
      refine k_aloadT eL_law_121 rfl ?_
      refine k_iload_n eL_law_122 rfl ?_
      refine k_callSX (M' := ML_slow) (bc' := 0) (bs' := 0) (bc2 := 0) (bs2 := 0) eL_law_123 mL_43 wL_slow sL_slow rfl (pL_slow (r := r) hN hr) (by decide) ⟨rfl, rfl⟩ (Nat.le_of_ble_eq_true rfl) ?_
      rintro r h1 ⟨rfl, e1⟩
      obtain rfl := e1.symm
      refine k_iload eL_law_126 rfl ?_
      refine k_callS (M' := ML_left) (bc' := 0) (bs' := 0) (bc2 := 0) (bs2 := 0) eL_law_128 mL_106 wL_left sL_left rfl (pL_left (nI (slN Ns xs r)) (K := k) (by omega)) (by decide) ⟨rfl, rfl⟩ (Nat.le_of_ble_eq_true rfl) ?_
      rintro r h1 ⟨rfl, e1⟩
      obtain rfl := e1.symm
      refine k_imul eL_law_131 ?_
      refine k_iadd eL_law_132 ?_
      refine k_istore (L2 := [_, _, _, _, _, _, _, _, _, _]) eL_law_133 (Nat.le_of_ble_eq_true rfl) rfl ?_
      refine k_iload eL_law_135 rfl ?_
      refine k_aloadT eL_law_137 rfl ?_
      refine k_iload eL_law_138 rfl ?_
      refine k_callSX (M' := ML_tires) (bc' := 0) (bs' := 0) (bc2 := 0) (bs2 := 0) eL_law_140 mL_24 wL_tires sL_tires rfl (pL_tires (w := (plN Ns xs (d - k))) hN (by omega)) (by decide) ⟨rfl, rfl⟩ (Nat.le_of_ble_eq_true rfl) ?_
      rintro r h1 ⟨rfl, e1⟩
      obtain rfl := e1.symm
      refine k_aloadT eL_law_143 rfl ?_
      refine k_iload_n eL_law_144 rfl ?_
      refine k_callSX (M' := ML_fast) (bc' := 0) (bs' := 0) (bc2 := 0) (bs2 := 0) eL_law_145 mL_40 wL_fast sL_fast rfl (pL_fast (r := r) hN hr) (by decide) ⟨rfl, rfl⟩ (Nat.le_of_ble_eq_true rfl) ?_
      rintro r h1 ⟨rfl, e1⟩
      obtain rfl := e1.symm
      refine k_iload eL_law_148 rfl ?_
      refine k_callS (M' := ML_left) (bc' := 0) (bs' := 0) (bc2 := 0) (bs2 := 0) eL_law_150 mL_106 wL_left sL_left rfl (pL_left (nI (faN Ns xs r)) (K := k) (by omega)) (by decide) ⟨rfl, rfl⟩ (Nat.le_of_ble_eq_true rfl) ?_
      rintro r h1 ⟨rfl, e1⟩
      obtain rfl := e1.symm
      refine k_imul eL_law_153 ?_
      refine k_iadd eL_law_154 ?_
      refine k_istore (L2 := [_, _, _, _, _, _, _, _, _, _]) eL_law_155 (Nat.le_of_ble_eq_true rfl) rfl ?_
      refine k_iincN (g := 1) (a := k) (L2 := [_, _, _, _, _, _, _, _, _, _]) eL_law_157 (Nat.le_of_ble_eq_true rfl) rfl rfl ?_
      refine k_goto 79 eL_law_160 (by decide) ?_
      refine k_forget 7 (L2 := [_, _, _, _, _, _, _, _, _, _]) rfl ?_
      have q := ih (k + 1) (by omega)
      rw [sBk, tBk, sumN_s, sumN_s] at q
      first | (rw [if_neg c_97, if_neg c_97] at q; exact q) | (rw [if_pos c_97, if_pos c_97, addz, addz] at q; exact q)
    refine k_goto 157 eL_law_100 (by decide) ?_
    refine k_iincN (g := 1) (a := k) (L2 := [_, _, _, _, _, _, _, _, _, _]) eL_law_157 (Nat.le_of_ble_eq_true rfl) rfl rfl ?_
    refine k_goto 79 eL_law_160 (by decide) ?_
    refine k_forget 7 (L2 := [_, _, _, _, _, _, _, _, _, _]) rfl ?_
    have q := ih (k + 1) (by omega)
    rw [sBk, tBk, sumN_s, sumN_s] at q
    first | (rw [if_neg c_97, if_neg c_97] at q; exact q) | (rw [if_pos c_97, if_pos c_97, addz, addz] at q; exact q)
set_option maxHeartbeats 2000000 in
theorem l64 {nm : String} {Ns : Nat} {xs : Nat → Int32} (hN : Ns ≤ 260) {S : k_S} {g : k_H} (hF : LF Ns xs S (plN Ns xs)) {r : Nat} (hr : r < 2) (kx : AW (some (Ns, xs)) (Mn nm) 12 0 0 297 [.retAddr 0, .ref 0, .int (nI r), .null, .null, .null, .null, .null, .null, .null] [] (hp S ++ g) PoL) : ∀ (n9 d : Nat), 120 ≤ d + 3 * n9 → d ≤ 122 → AW (some (Ns, xs)) (Mn nm) 12 0 0 64 [.retAddr 0, .ref 0, .int (nI r), .int (nI d), .null, .null, .null, .null, .null, .null] [] (hp S ++ g) PoL := by
  intro n9
  induction n9 with
  | zero =>
    intro d hj h1
    refine k_iload_n eL_law_64 rfl ?_
    refine k_bipush (v := nI 120) eL_law_65 (by decide) ?_
    refine k_icmp_geN 297 eL_law_67 (by decide) (by omega) (by omega) (fun c_67 => ?_) (fun c_67 => by exfalso; omega)
    refine k_forget 3 (L2 := [_, _, _, _, _, _, _, _, _, _]) rfl ?_
    exact kx
  | succ n9 ih =>
    intro d hj h1
    refine k_iload_n eL_law_64 rfl ?_
    refine k_bipush (v := nI 120) eL_law_65 (by decide) ?_
    refine k_icmp_geN 297 eL_law_67 (by decide) (by omega) (by omega) (fun c_67 => ?_) (fun c_67 => ?_)
    · refine k_forget 3 (L2 := [_, _, _, _, _, _, _, _, _, _]) rfl ?_
      exact kx
    refine k_iconst (v := nI 0) eL_law_70 (by decide) ?_
    refine k_istore (L2 := [_, _, _, _, _, _, _, _, _, _]) eL_law_71 (Nat.le_of_ble_eq_true rfl) rfl ?_
    refine k_iconst (v := nI 0) eL_law_73 (by decide) ?_
    refine k_istore (L2 := [_, _, _, _, _, _, _, _, _, _]) eL_law_74 (Nat.le_of_ble_eq_true rfl) rfl ?_
    refine k_iconst (v := nI 0) eL_law_76 (by decide) ?_
    refine k_istore (L2 := [_, _, _, _, _, _, _, _, _, _]) eL_law_77 (Nat.le_of_ble_eq_true rfl) rfl ?_
    exact l79 hN hF hr (by omega) (ih (d + 3) (by omega) (by omega)) (d + 1) 0 (by omega)
set_option maxHeartbeats 2000000 in
theorem l22 {nm : String} {Ns : Nat} {xs : Nat → Int32} (hN : Ns ≤ 260) {S : k_S} {g : k_H} (hF : LF Ns xs S (plN Ns xs)) {r w : Nat} (hr : r < 2) (hw : w < 4) (kx : AW (some (Ns, xs)) (Mn nm) 12 0 0 56 [.retAddr 0, .ref 0, .int (nI r), .int (nI w), .null, .null, .null, .null, .null, .null] [] (hp S ++ g) PoL) : ∀ (n9 k : Nat), 120 ≤ k + 7 * n9 → k ≤ 126 → AW (some (Ns, xs)) (Mn nm) 12 0 0 22 [.retAddr 0, .ref 0, .int (nI r), .int (nI w), .int (nI k), .null, .null, .null, .null, .null] [] (hp S ++ g) PoL := by
  intro n9
  induction n9 with
  | zero =>
    intro k hj h1
    refine k_iload eL_law_22 rfl ?_
    refine k_bipush (v := nI 120) eL_law_24 (by decide) ?_
    refine k_icmp_geN 56 eL_law_26 (by decide) (by omega) (by omega) (fun c_26 => ?_) (fun c_26 => by exfalso; omega)
    refine k_forget 4 (L2 := [_, _, _, _, _, _, _, _, _, _]) rfl ?_
    exact kx
  | succ n9 ih =>
    intro k hj h1
    refine k_iload eL_law_22 rfl ?_
    refine k_bipush (v := nI 120) eL_law_24 (by decide) ?_
    refine k_icmp_geN 56 eL_law_26 (by decide) (by omega) (by omega) (fun c_26 => ?_) (fun c_26 => ?_)
    · refine k_forget 4 (L2 := [_, _, _, _, _, _, _, _, _, _]) rfl ?_
      exact kx
    refine k_aload_n eL_law_29 rfl ?_
    refine k_iload_n eL_law_30 rfl ?_
    refine k_iload_n eL_law_31 rfl ?_
    refine k_iload eL_law_32 rfl ?_
    refine cG1 (M' := MX11_points) eL_law_34 mL_122 wX11_points vX11_points ⟨_, _, _, rfl, rfl, rfl⟩ rfl (pX11_points (S := S) rfl hF.2.1 (by decide) hF.1 (by decide) (by decide) (nI r) (nI w) (nI k)) (by decide) (Nat.le_of_ble_eq_true rfl) ?_
    refine k_topi ((ptL Ns xs r w k)) (aPts_L hF hr hw (by omega)) ?_
    refine k_aloadT eL_law_37 rfl ?_
    refine k_iload_n eL_law_38 rfl ?_
    refine k_iload_n eL_law_39 rfl ?_
    refine k_iload eL_law_40 rfl ?_
    refine k_callSX (M' := ML_points) (bc' := 0) (bs' := 0) (bc2 := 0) (bs2 := 0) eL_law_42 mL_109 wL_points sL_points rfl (pL_points (r := r) (w := w) (k := k) hN hr (by omega) (by omega)) (by decide) ⟨rfl, rfl⟩ (Nat.le_of_ble_eq_true rfl) ?_
    rintro r h1 ⟨rfl, e1⟩
    obtain rfl := e1.symm
    refine k_icmp_eq 50 eL_law_45 (by decide) (fun c_45 => ?_) (fun c_45 => by exact absurd rfl c_45)
    refine k_iincN (g := 7) (a := k) (L2 := [_, _, _, _, _, _, _, _, _, _]) eL_law_50 (Nat.le_of_ble_eq_true rfl) rfl rfl ?_
    refine k_goto 22 eL_law_53 (by decide) ?_
    exact ih (k + 7) (by omega) (by omega)
set_option maxHeartbeats 2000000 in
theorem l14 {nm : String} {Ns : Nat} {xs : Nat → Int32} (hN : Ns ≤ 260) {S : k_S} {g : k_H} (hF : LF Ns xs S (plN Ns xs)) {r : Nat} (hr : r < 2) (kx : AW (some (Ns, xs)) (Mn nm) 12 0 0 62 [.retAddr 0, .ref 0, .int (nI r), .null, .null, .null, .null, .null, .null, .null] [] (hp S ++ g) PoL) : ∀ (n9 w : Nat), w + n9 = 4 → AW (some (Ns, xs)) (Mn nm) 12 0 0 14 [.retAddr 0, .ref 0, .int (nI r), .int (nI w), .null, .null, .null, .null, .null, .null] [] (hp S ++ g) PoL := by
  intro n9
  induction n9 with
  | zero =>
    intro w hj
    refine k_iload_n eL_law_14 rfl ?_
    refine k_iconst (v := nI 4) eL_law_15 (by decide) ?_
    refine k_icmp_geN 62 eL_law_16 (by decide) (by omega) (by omega) (fun c_16 => ?_) (fun c_16 => by exfalso; omega)
    refine k_forget 3 (L2 := [_, _, _, _, _, _, _, _, _, _]) rfl ?_
    exact kx
  | succ n9 ih =>
    intro w hj
    refine k_iload_n eL_law_14 rfl ?_
    refine k_iconst (v := nI 4) eL_law_15 (by decide) ?_
    refine k_icmp_geN 62 eL_law_16 (by decide) (by omega) (by omega) (fun c_16 => by exfalso; omega) (fun c_16 => ?_)
    refine k_iconst (v := nI 0) eL_law_19 (by decide) ?_
    refine k_istore (L2 := [_, _, _, _, _, _, _, _, _, _]) eL_law_20 (Nat.le_of_ble_eq_true rfl) rfl ?_
    refine l22 hN hF hr (by omega) ?_ 18 0 (by omega) (by omega)
    refine k_iincN (g := 1) (a := w) (L2 := [_, _, _, _, _, _, _, _, _, _]) eL_law_56 (Nat.le_of_ble_eq_true rfl) rfl rfl ?_
    refine k_goto 14 eL_law_59 (by decide) ?_
    exact ih (w + 1) (by omega)
set_option maxHeartbeats 2000000 in
theorem l7 {nm : String} {Ns : Nat} {xs : Nat → Int32} (hN : Ns ≤ 260) {S : k_S} {g : k_H} (hF : LF Ns xs S (plN Ns xs)) {n : Nat} (hn : S.1 1656 = nI n) (h40 : n ≤ 40) : ∀ (n9 r : Nat), r + n9 = 2 → AW (some (Ns, xs)) (Mn nm) 12 0 0 7 [.retAddr 0, .ref 0, .int (nI r), .null, .null, .null, .null, .null, .null, .null] [] (hp S ++ g) PoL := by
  intro n9
  induction n9 with
  | zero =>
    intro r hj
    refine k_iload_n eL_law_7 rfl ?_
    refine k_iconst (v := nI 2) eL_law_8 (by decide) ?_
    refine k_icmp_geN 303 eL_law_9 (by decide) (by omega) (by omega) (fun c_9 => ?_) (fun c_9 => by exfalso; omega)
    refine k_forget 2 (L2 := [_, _, _, _, _, _, _, _, _, _]) rfl ?_
    exact l303 hN hF hn h40
  | succ n9 ih =>
    intro r hj
    refine k_iload_n eL_law_7 rfl ?_
    refine k_iconst (v := nI 2) eL_law_8 (by decide) ?_
    refine k_icmp_geN 303 eL_law_9 (by decide) (by omega) (by omega) (fun c_9 => by exfalso; omega) (fun c_9 => ?_)
    refine k_iconst (v := nI 0) eL_law_12 (by decide) ?_
    refine k_istore_n (L2 := [_, _, _, _, _, _, _, _, _, _]) eL_law_13 (Nat.le_of_ble_eq_true rfl) rfl ?_
    refine l14 hN hF (by omega) ?_ 4 0 (by omega)
    refine k_iconst (v := nI 0) eL_law_62 (by decide) ?_
    refine k_istore_n (L2 := [_, _, _, _, _, _, _, _, _, _]) eL_law_63 (Nat.le_of_ble_eq_true rfl) rfl ?_
    refine l64 hN hF (by omega) ?_ 40 0 (by omega) (by omega)
    refine k_iincN (g := 1) (a := r) (L2 := [_, _, _, _, _, _, _, _, _, _]) eL_law_297 (Nat.le_of_ble_eq_true rfl) rfl rfl ?_
    refine k_goto 7 eL_law_300 (by decide) ?_
    exact ih (r + 1) (by omega)
/-- the law answers true -/
theorem law_all {nm : String} {Ns : Nat} {xs : Nat → Int32} (hN : Ns ≤ 260) : AW (some (Ns, xs)) (Mn nm) 12 63 4701 0 [.retAddr 0, .null, .null, .null, .null, .null, .null, .null, .null, .null] [] [] PoL := by
  refine k_aloadT eL_law_0 rfl ?_
  refine k_callSX (M' := ML_build) (bc' := 63) (bs' := 4701) (bc2 := 0) (bs2 := 0) eL_law_1 mL_118 wL_build sL_build rfl (pL_build hN) (by decide) ⟨rfl, rfl⟩ (Nat.le_of_ble_eq_true rfl) ?_
  rintro r h1 ⟨rfl, S, g, rfl, hB⟩
  have hF := lf_of hB
  obtain ⟨n, h40, hn⟩ := hB.2.2.2.1
  refine k_astore_n (L2 := [_, _, _, _, _, _, _, _, _, _]) eL_law_4 (Nat.le_of_ble_eq_true rfl) rfl ?_
  refine k_iconst (v := nI 0) eL_law_5 (by decide) ?_
  refine k_istore_n (L2 := [_, _, _, _, _, _, _, _, _, _]) eL_law_6 (Nat.le_of_ble_eq_true rfl) rfl ?_
  exact l7 hN hF hn h40 2 0 (by omega)
