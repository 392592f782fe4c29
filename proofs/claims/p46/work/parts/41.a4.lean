def aNum (S : k_S) (x : Int32) : Int32 := if x = nI 0 then S.1 803 else if x = nI 1 then S.1 1003 else if x = nI 2 then nI (cnt (S.2.1 25) 0 120) else if x = nI 3 then S.1 1302 else if x = nI 4 then S.1 11 else if x = nI 5 then S.1 14 else if x = nI 6 then S.1 1656 else if x = nI 7 then S.1 201 else if x = nI 8 then S.1 203 else -1
set_option maxHeartbeats 400000 in
theorem pX11_count0 {S : k_S} : Sp 0 0 0 MX11_count [.ref 0, .int (nI 0)] (hp S) (Rt (some (.int (S.1 803))) (hp S)) := by
  refine Sp_of (by decide +kernel) (Nat.le_of_ble_eq_true rfl) ?_
  show AW none MX11_count 0 0 0 0 [.ref 0, .int (nI 0)] [] (hp S) _
  refine k_iload_n eX11_count_0 rfl ?_
  refine k_tabIn 52 (off := 51) eX11_count_1 (by decide) (by decide) (by decide) (by decide) ?_
  refine k_aload_n eX11_count_52 rfl ?_
  refine GX11_67 eX11_count_53 rfl ?_
  refine GX11_325 eX11_count_56 rfl ?_
  refine k_ireturn eX11_count_59 rfl rfl ?_
  exact ⟨rfl, rfl⟩
set_option maxHeartbeats 400000 in
theorem pX11_count1 {S : k_S} : Sp 0 0 0 MX11_count [.ref 0, .int (nI 1)] (hp S) (Rt (some (.int (S.1 1003))) (hp S)) := by
  refine Sp_of (by decide +kernel) (Nat.le_of_ble_eq_true rfl) ?_
  show AW none MX11_count 0 0 0 0 [.ref 0, .int (nI 1)] [] (hp S) _
  refine k_iload_n eX11_count_0 rfl ?_
  refine k_tabIn 60 (off := 59) eX11_count_1 (by decide) (by decide) (by decide) (by decide) ?_
  refine k_aload_n eX11_count_60 rfl ?_
  refine GX11_71 eX11_count_61 rfl ?_
  refine GX11_259 eX11_count_64 rfl ?_
  refine k_ireturn eX11_count_67 rfl rfl ?_
  exact ⟨rfl, rfl⟩
set_option maxHeartbeats 400000 in
theorem pX11_count2 {S : k_S} : Sp 3 0 0 MX11_count [.ref 0, .int (nI 2)] (hp S) (Rt (some (.int (nI (cnt (S.2.1 25) 0 120)))) (hp S)) := by
  refine Sp_of (by decide +kernel) (Nat.le_of_ble_eq_true rfl) ?_
  show AW none MX11_count 3 0 0 0 [.ref 0, .int (nI 2)] [] (hp S) _
  refine k_iload_n eX11_count_0 rfl ?_
  refine k_tabIn 68 (off := 67) eX11_count_1 (by decide) (by decide) (by decide) (by decide) ?_
  refine k_aload_n eX11_count_68 rfl ?_
  refine GX11_75 eX11_count_69 rfl ?_
  refine k_iconst (v := nI 0) eX11_count_72 (by decide) ?_
  refine k_bipush (v := nI 119) eX11_count_73 (by decide) ?_
  refine cV1 (M' := MX2_working) eX11_count_75 mX11_158 wX2_working vX2_working ⟨_, _, _, rfl, rfl, rfl⟩ rfl (pX2_working (S := S) (a := 0) (b := 119) (by omega) (by omega)) (by decide) (Nat.le_of_ble_eq_true rfl) ?_
  refine k_ireturn eX11_count_78 rfl rfl ?_
  exact ⟨rfl, rfl⟩
set_option maxHeartbeats 400000 in
theorem pX11_count3 {S : k_S} : Sp 0 0 0 MX11_count [.ref 0, .int (nI 3)] (hp S) (Rt (some (.int (S.1 1302))) (hp S)) := by
  refine Sp_of (by decide +kernel) (Nat.le_of_ble_eq_true rfl) ?_
  show AW none MX11_count 0 0 0 0 [.ref 0, .int (nI 3)] [] (hp S) _
  refine k_iload_n eX11_count_0 rfl ?_
  refine k_tabIn 79 (off := 78) eX11_count_1 (by decide) (by decide) (by decide) (by decide) ?_
  refine k_aload_n eX11_count_79 rfl ?_
  refine GX11_79 eX11_count_80 rfl ?_
  refine GX11_326 eX11_count_83 rfl ?_
  refine k_ireturn eX11_count_86 rfl rfl ?_
  exact ⟨rfl, rfl⟩
set_option maxHeartbeats 400000 in
theorem pX11_count4 {S : k_S} : Sp 0 0 0 MX11_count [.ref 0, .int (nI 4)] (hp S) (Rt (some (.int (S.1 11))) (hp S)) := by
  refine Sp_of (by decide +kernel) (Nat.le_of_ble_eq_true rfl) ?_
  show AW none MX11_count 0 0 0 0 [.ref 0, .int (nI 4)] [] (hp S) _
  refine k_iload_n eX11_count_0 rfl ?_
  refine k_tabIn 87 (off := 86) eX11_count_1 (by decide) (by decide) (by decide) (by decide) ?_
  refine k_aload_n eX11_count_87 rfl ?_
  refine GX11_34 eX11_count_88 rfl ?_
  refine k_ireturn eX11_count_91 rfl rfl ?_
  exact ⟨rfl, rfl⟩
set_option maxHeartbeats 400000 in
theorem pX11_count5 {S : k_S} : Sp 0 0 0 MX11_count [.ref 0, .int (nI 5)] (hp S) (Rt (some (.int (S.1 14))) (hp S)) := by
  refine Sp_of (by decide +kernel) (Nat.le_of_ble_eq_true rfl) ?_
  show AW none MX11_count 0 0 0 0 [.ref 0, .int (nI 5)] [] (hp S) _
  refine k_iload_n eX11_count_0 rfl ?_
  refine k_tabIn 92 (off := 91) eX11_count_1 (by decide) (by decide) (by decide) (by decide) ?_
  refine k_aload_n eX11_count_92 rfl ?_
  refine GX11_44 eX11_count_93 rfl ?_
  refine k_ireturn eX11_count_96 rfl rfl ?_
  exact ⟨rfl, rfl⟩
set_option maxHeartbeats 400000 in
theorem pX11_count6 {S : k_S} : Sp 0 0 0 MX11_count [.ref 0, .int (nI 6)] (hp S) (Rt (some (.int (S.1 1656))) (hp S)) := by
  refine Sp_of (by decide +kernel) (Nat.le_of_ble_eq_true rfl) ?_
  show AW none MX11_count 0 0 0 0 [.ref 0, .int (nI 6)] [] (hp S) _
  refine k_iload_n eX11_count_0 rfl ?_
  refine k_tabIn 97 (off := 96) eX11_count_1 (by decide) (by decide) (by decide) (by decide) ?_
  refine k_aload_n eX11_count_97 rfl ?_
  refine GX11_92 eX11_count_98 rfl ?_
  refine GX11_327 eX11_count_101 rfl ?_
  refine k_ireturn eX11_count_104 rfl rfl ?_
  exact ⟨rfl, rfl⟩
set_option maxHeartbeats 400000 in
theorem pX11_count7 {S : k_S} : Sp 0 0 0 MX11_count [.ref 0, .int (nI 7)] (hp S) (Rt (some (.int (S.1 201))) (hp S)) := by
  refine Sp_of (by decide +kernel) (Nat.le_of_ble_eq_true rfl) ?_
  show AW none MX11_count 0 0 0 0 [.ref 0, .int (nI 7)] [] (hp S) _
  refine k_iload_n eX11_count_0 rfl ?_
  refine k_tabIn 105 (off := 104) eX11_count_1 (by decide) (by decide) (by decide) (by decide) ?_
  refine k_aload_n eX11_count_105 rfl ?_
  refine GX11_19 eX11_count_106 rfl ?_
  refine GX11_330 eX11_count_109 rfl ?_
  refine k_ireturn eX11_count_112 rfl rfl ?_
  exact ⟨rfl, rfl⟩
set_option maxHeartbeats 400000 in
theorem pX11_count8 {S : k_S} : Sp 0 0 0 MX11_count [.ref 0, .int (nI 8)] (hp S) (Rt (some (.int (S.1 203))) (hp S)) := by
  refine Sp_of (by decide +kernel) (Nat.le_of_ble_eq_true rfl) ?_
  show AW none MX11_count 0 0 0 0 [.ref 0, .int (nI 8)] [] (hp S) _
  refine k_iload_n eX11_count_0 rfl ?_
  refine k_tabIn 113 (off := 112) eX11_count_1 (by decide) (by decide) (by decide) (by decide) ?_
  refine k_aload_n eX11_count_113 rfl ?_
  refine GX11_19 eX11_count_114 rfl ?_
  refine GX11_331 eX11_count_117 rfl ?_
  refine k_ireturn eX11_count_120 rfl rfl ?_
  exact ⟨rfl, rfl⟩
set_option maxHeartbeats 400000 in
theorem pX11_countN {S : k_S} (x : Int32) (hx : x.toInt < 0 ∨ 8 < x.toInt) : Sp 0 0 0 MX11_count [.ref 0, .int (x)] (hp S) (Rt (some (.int (-1))) (hp S)) := by
  refine Sp_of (by decide +kernel) (Nat.le_of_ble_eq_true rfl) ?_
  show AW none MX11_count 0 0 0 0 [.ref 0, .int (x)] [] (hp S) _
  refine k_iload_n eX11_count_0 rfl ?_
  refine k_tabOut 121 eX11_count_1 hx (by decide) ?_
  refine k_iconst (v := (-1)) eX11_count_121 (by decide) ?_
  refine k_ireturn eX11_count_122 rfl rfl ?_
  exact ⟨rfl, rfl⟩
theorem pX11_count {S : k_S} (x : Int32) : ∃ du, du ≤ 3 ∧ Sp du 0 0 MX11_count [.ref 0, .int x] (hp S) (Rt (some (.int (aNum S x))) (hp S)) := by
  by_cases h0 : x = nI 0
  · subst h0; exact ⟨0, by decide, pX11_count0⟩
  by_cases h1 : x = nI 1
  · subst h1; exact ⟨0, by decide, pX11_count1⟩
  by_cases h2 : x = nI 2
  · subst h2; exact ⟨3, by decide, pX11_count2⟩
  by_cases h3 : x = nI 3
  · subst h3; exact ⟨0, by decide, pX11_count3⟩
  by_cases h4 : x = nI 4
  · subst h4; exact ⟨0, by decide, pX11_count4⟩
  by_cases h5 : x = nI 5
  · subst h5; exact ⟨0, by decide, pX11_count5⟩
  by_cases h6 : x = nI 6
  · subst h6; exact ⟨0, by decide, pX11_count6⟩
  by_cases h7 : x = nI 7
  · subst h7; exact ⟨0, by decide, pX11_count7⟩
  by_cases h8 : x = nI 8
  · subst h8; exact ⟨0, by decide, pX11_count8⟩
  · have e : aNum S x = -1 := by unfold aNum; simp only [h0, h1, h2, h3, h4, h5, h6, h7, h8, if_false]
    rw [e]
    refine ⟨0, by decide, pX11_countN x ?_⟩
    by_cases q : x.toInt < 0
    · exact Or.inl q
    · by_cases q2 : 8 < x.toInt
      · exact Or.inr q2
      · exfalso
        obtain ⟨m, hm, rfl⟩ := k_rngle (x := x) (n := 8) (by rw [Int32.le_iff_toInt_le, nI_toInt (by omega)]; omega) (by rw [Int32.le_iff_toInt_le, nI_toInt (by omega)]; omega) (by decide)
        rcases (by omega : m = 0 ∨ m = 1 ∨ m = 2 ∨ m = 3 ∨ m = 4 ∨ m = 5 ∨ m = 6 ∨ m = 7 ∨ m = 8) with rfl | rfl | rfl | rfl | rfl | rfl | rfl | rfl | rfl
        · exact h0 rfl
        · exact h1 rfl
        · exact h2 rfl
        · exact h3 rfl
        · exact h4 rfl
        · exact h5 rfl
        · exact h6 rfl
        · exact h7 rfl
        · exact h8 rfl
