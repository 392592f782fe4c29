theorem k_memG {w : Cond} (i : Nat) (h : lw_tbl[i]? = some w) (g : goodWord w = true := by rfl) : w ∈ k_tG := k_isG w i h g
theorem unJ0 : (u_ws RJ0 TJ0 4) = [823, 825, 827, 829].filterMap (fun i => lw_tbl[i]?) := by decide +kernel
theorem ugJ0 : (u_ws RJ0 TJ0 4).all goodWord = true := by decide +kernel
theorem uwJ0 : ∀ w ∈ u_ws RJ0 TJ0 4, w ∈ k_tG := by
  intro w hw
  have h1 := List.all_eq_true.mp ugJ0 w hw
  rw [unJ0] at hw
  obtain ⟨i, -, hi⟩ := List.mem_filterMap.mp hw
  exact k_inG (List.mem_of_getElem? hi) h1
theorem clJ0 : k_cl 0 RJ0 TJ0 4 tyJ0 := ⟨rfl, uwJ0, tyJ0_ok, nmJ0⟩
theorem unJ4 : (u_ws RJ4 TJ4 4) = [613, 615, 617, 619].filterMap (fun i => lw_tbl[i]?) := by decide +kernel
theorem ugJ4 : (u_ws RJ4 TJ4 4).all goodWord = true := by decide +kernel
theorem uwJ4 : ∀ w ∈ u_ws RJ4 TJ4 4, w ∈ k_tG := by
  intro w hw
  have h1 := List.all_eq_true.mp ugJ4 w hw
  rw [unJ4] at hw
  obtain ⟨i, -, hi⟩ := List.mem_filterMap.mp hw
  exact k_inG (List.mem_of_getElem? hi) h1
theorem clJ4 : k_cl 1 RJ4 TJ4 4 tyJ4 := ⟨rfl, uwJ4, tyJ4_ok, nmJ4⟩
theorem unX0 : (u_ws RX0 TX0 6) = [265, 267, 269, 271, 273, 275].filterMap (fun i => lw_tbl[i]?) := by decide +kernel
theorem ugX0 : (u_ws RX0 TX0 6).all goodWord = true := by decide +kernel
theorem uwX0 : ∀ w ∈ u_ws RX0 TX0 6, w ∈ k_tG := by
  intro w hw
  have h1 := List.all_eq_true.mp ugX0 w hw
  rw [unX0] at hw
  obtain ⟨i, -, hi⟩ := List.mem_filterMap.mp hw
  exact k_inG (List.mem_of_getElem? hi) h1
theorem clX0 : k_cl 2 RX0 TX0 6 tyX0 := ⟨rfl, uwX0, tyX0_ok, nmX0⟩
theorem unX1 : (u_ws RX1 TX1 8) = [412, 414, 416, 418, 420, 422, 424, 426].filterMap (fun i => lw_tbl[i]?) := by decide +kernel
theorem ugX1 : (u_ws RX1 TX1 8).all goodWord = true := by decide +kernel
theorem uwX1 : ∀ w ∈ u_ws RX1 TX1 8, w ∈ k_tG := by
  intro w hw
  have h1 := List.all_eq_true.mp ugX1 w hw
  rw [unX1] at hw
  obtain ⟨i, -, hi⟩ := List.mem_filterMap.mp hw
  exact k_inG (List.mem_of_getElem? hi) h1
theorem clX1 : k_cl 3 RX1 TX1 8 tyX1 := ⟨rfl, uwX1, tyX1_ok, nmX1⟩
theorem unX2 : (u_ws RX2 TX2 1) = [351].filterMap (fun i => lw_tbl[i]?) := by decide +kernel
theorem ugX2 : (u_ws RX2 TX2 1).all goodWord = true := by decide +kernel
theorem uwX2 : ∀ w ∈ u_ws RX2 TX2 1, w ∈ k_tG := by
  intro w hw
  have h1 := List.all_eq_true.mp ugX2 w hw
  rw [unX2] at hw
  obtain ⟨i, -, hi⟩ := List.mem_filterMap.mp hw
  exact k_inG (List.mem_of_getElem? hi) h1
theorem clX2 : k_cl 4 RX2 TX2 1 tyX2 := ⟨rfl, uwX2, tyX2_ok, nmX2⟩
theorem unX3 : (u_ws RX3 TX3 7) = [383, 385, 387, 389, 391, 393, 395].filterMap (fun i => lw_tbl[i]?) := by decide +kernel
theorem ugX3 : (u_ws RX3 TX3 7).all goodWord = true := by decide +kernel
theorem uwX3 : ∀ w ∈ u_ws RX3 TX3 7, w ∈ k_tG := by
  intro w hw
  have h1 := List.all_eq_true.mp ugX3 w hw
  rw [unX3] at hw
  obtain ⟨i, -, hi⟩ := List.mem_filterMap.mp hw
  exact k_inG (List.mem_of_getElem? hi) h1
theorem clX3 : k_cl 5 RX3 TX3 7 tyX3 := ⟨rfl, uwX3, tyX3_ok, nmX3⟩
theorem unX4 : (u_ws RX4 TX4 12) = [469, 471, 473, 475, 477, 479, 481, 483, 485, 487, 489, 491].filterMap (fun i => lw_tbl[i]?) := by decide +kernel
theorem ugX4 : (u_ws RX4 TX4 12).all goodWord = true := by decide +kernel
theorem uwX4 : ∀ w ∈ u_ws RX4 TX4 12, w ∈ k_tG := by
  intro w hw
  have h1 := List.all_eq_true.mp ugX4 w hw
  rw [unX4] at hw
  obtain ⟨i, -, hi⟩ := List.mem_filterMap.mp hw
  exact k_inG (List.mem_of_getElem? hi) h1
theorem clX4 : k_cl 6 RX4 TX4 12 tyX4 := ⟨rfl, uwX4, tyX4_ok, nmX4⟩
theorem unX5 : (u_ws RX5 TX5 3) = [364, 366, 368].filterMap (fun i => lw_tbl[i]?) := by decide +kernel
theorem ugX5 : (u_ws RX5 TX5 3).all goodWord = true := by decide +kernel
theorem uwX5 : ∀ w ∈ u_ws RX5 TX5 3, w ∈ k_tG := by
  intro w hw
  have h1 := List.all_eq_true.mp ugX5 w hw
  rw [unX5] at hw
  obtain ⟨i, -, hi⟩ := List.mem_filterMap.mp hw
  exact k_inG (List.mem_of_getElem? hi) h1
theorem clX5 : k_cl 7 RX5 TX5 3 tyX5 := ⟨rfl, uwX5, tyX5_ok, nmX5⟩
theorem unX6 : (u_ws RX6 TX6 8) = [235, 237, 239, 241, 243, 245, 247, 249].filterMap (fun i => lw_tbl[i]?) := by decide +kernel
theorem ugX6 : (u_ws RX6 TX6 8).all goodWord = true := by decide +kernel
theorem uwX6 : ∀ w ∈ u_ws RX6 TX6 8, w ∈ k_tG := by
  intro w hw
  have h1 := List.all_eq_true.mp ugX6 w hw
  rw [unX6] at hw
  obtain ⟨i, -, hi⟩ := List.mem_filterMap.mp hw
  exact k_inG (List.mem_of_getElem? hi) h1
theorem clX6 : k_cl 8 RX6 TX6 8 tyX6 := ⟨rfl, uwX6, tyX6_ok, nmX6⟩
theorem unX7 : (u_ws RX7 TX7 4) = [288, 290, 292, 294].filterMap (fun i => lw_tbl[i]?) := by decide +kernel
theorem ugX7 : (u_ws RX7 TX7 4).all goodWord = true := by decide +kernel
theorem uwX7 : ∀ w ∈ u_ws RX7 TX7 4, w ∈ k_tG := by
  intro w hw
  have h1 := List.all_eq_true.mp ugX7 w hw
  rw [unX7] at hw
  obtain ⟨i, -, hi⟩ := List.mem_filterMap.mp hw
  exact k_inG (List.mem_of_getElem? hi) h1
theorem clX7 : k_cl 9 RX7 TX7 4 tyX7 := ⟨rfl, uwX7, tyX7_ok, nmX7⟩
theorem unX8 : (u_ws RX8 TX8 4) = [335, 337, 339, 341].filterMap (fun i => lw_tbl[i]?) := by decide +kernel
theorem ugX8 : (u_ws RX8 TX8 4).all goodWord = true := by decide +kernel
theorem uwX8 : ∀ w ∈ u_ws RX8 TX8 4, w ∈ k_tG := by
  intro w hw
  have h1 := List.all_eq_true.mp ugX8 w hw
  rw [unX8] at hw
  obtain ⟨i, -, hi⟩ := List.mem_filterMap.mp hw
  exact k_inG (List.mem_of_getElem? hi) h1
theorem clX8 : k_cl 10 RX8 TX8 4 tyX8 := ⟨rfl, uwX8, tyX8_ok, nmX8⟩
theorem unX9 : (u_ws RX9 TX9 4) = [444, 446, 448, 450].filterMap (fun i => lw_tbl[i]?) := by decide +kernel
theorem ugX9 : (u_ws RX9 TX9 4).all goodWord = true := by decide +kernel
theorem uwX9 : ∀ w ∈ u_ws RX9 TX9 4, w ∈ k_tG := by
  intro w hw
  have h1 := List.all_eq_true.mp ugX9 w hw
  rw [unX9] at hw
  obtain ⟨i, -, hi⟩ := List.mem_filterMap.mp hw
  exact k_inG (List.mem_of_getElem? hi) h1
theorem clX9 : k_cl 11 RX9 TX9 4 tyX9 := ⟨rfl, uwX9, tyX9_ok, nmX9⟩
theorem unX10 : (u_ws RX10 TX10 4) = [313, 315, 317, 319].filterMap (fun i => lw_tbl[i]?) := by decide +kernel
theorem ugX10 : (u_ws RX10 TX10 4).all goodWord = true := by decide +kernel
theorem uwX10 : ∀ w ∈ u_ws RX10 TX10 4, w ∈ k_tG := by
  intro w hw
  have h1 := List.all_eq_true.mp ugX10 w hw
  rw [unX10] at hw
  obtain ⟨i, -, hi⟩ := List.mem_filterMap.mp hw
  exact k_inG (List.mem_of_getElem? hi) h1
theorem clX10 : k_cl 12 RX10 TX10 4 tyX10 := ⟨rfl, uwX10, tyX10_ok, nmX10⟩
theorem unX11 : (u_ws RX11 TX11 16) = [510, 512, 514, 516, 518, 520, 522, 524, 526, 528, 530, 532, 534, 536, 538, 540].filterMap (fun i => lw_tbl[i]?) := by decide +kernel
theorem ugX11 : (u_ws RX11 TX11 16).all goodWord = true := by decide +kernel
theorem uwX11 : ∀ w ∈ u_ws RX11 TX11 16, w ∈ k_tG := by
  intro w hw
  have h1 := List.all_eq_true.mp ugX11 w hw
  rw [unX11] at hw
  obtain ⟨i, -, hi⟩ := List.mem_filterMap.mp hw
  exact k_inG (List.mem_of_getElem? hi) h1
theorem clX11 : k_cl 13 RX11 TX11 16 tyX11 := ⟨rfl, uwX11, tyX11_ok, nmX11⟩
theorem wX0_init : k_mw MX0_init 0 := ⟨⟨k_memG 257 (by decide +kernel), k_memG 20 (by decide +kernel)⟩, by decide +kernel, by decide +kernel⟩
theorem iX0_init : MX0_init.1.name = "<init>" ∧ Cond.instanceMethod MX0_init.1 ∈ k_tG ∧ MX0_init.2.2.2 = none := ⟨rfl, k_memG 256 (by decide +kernel), rfl⟩
theorem wX1_init : k_mw MX1_init 2 := ⟨⟨k_memG 401 (by decide +kernel), k_memG 27 (by decide +kernel)⟩, by decide +kernel, by decide +kernel⟩
theorem iX1_init : MX1_init.1.name = "<init>" ∧ Cond.instanceMethod MX1_init.1 ∈ k_tG ∧ MX1_init.2.2.2 = none := ⟨rfl, k_memG 400 (by decide +kernel), rfl⟩
theorem wX1_tell : k_mw MX1_tell 3 := ⟨⟨k_memG 67 (by decide +kernel), k_memG 27 (by decide +kernel)⟩, by decide +kernel, by decide +kernel⟩
theorem vX1_tell : Cond.instanceMethod MX1_tell.1 ∈ k_tG ∧ Cond.selects MX1_tell.1.cls MX1_tell.1 MX1_tell.1 ∈ k_tG := ⟨k_memG 65 (by decide +kernel), k_memG 66 (by decide +kernel)⟩
theorem wX1_stepBack : k_mw MX1_stepBack 0 := ⟨⟨k_memG 188 (by decide +kernel), k_memG 27 (by decide +kernel)⟩, by decide +kernel, by decide +kernel⟩
theorem vX1_stepBack : Cond.instanceMethod MX1_stepBack.1 ∈ k_tG ∧ Cond.selects MX1_stepBack.1.cls MX1_stepBack.1 MX1_stepBack.1 ∈ k_tG := ⟨k_memG 186 (by decide +kernel), k_memG 187 (by decide +kernel)⟩
theorem wX1_stepAhead : k_mw MX1_stepAhead 0 := ⟨⟨k_memG 196 (by decide +kernel), k_memG 27 (by decide +kernel)⟩, by decide +kernel, by decide +kernel⟩
theorem vX1_stepAhead : Cond.instanceMethod MX1_stepAhead.1 ∈ k_tG ∧ Cond.selects MX1_stepAhead.1.cls MX1_stepAhead.1 MX1_stepAhead.1 ∈ k_tG := ⟨k_memG 194 (by decide +kernel), k_memG 195 (by decide +kernel)⟩
theorem wX1_now : k_mw MX1_now 2 := ⟨⟨k_memG 72 (by decide +kernel), k_memG 27 (by decide +kernel)⟩, by decide +kernel, by decide +kernel⟩
theorem vX1_now : Cond.instanceMethod MX1_now.1 ∈ k_tG ∧ Cond.selects MX1_now.1.cls MX1_now.1 MX1_now.1 ∈ k_tG := ⟨k_memG 70 (by decide +kernel), k_memG 0 (by decide +kernel)⟩
theorem wX1_become : k_mw MX1_become 3 := ⟨⟨k_memG 89 (by decide +kernel), k_memG 27 (by decide +kernel)⟩, by decide +kernel, by decide +kernel⟩
theorem vX1_become : Cond.instanceMethod MX1_become.1 ∈ k_tG ∧ Cond.selects MX1_become.1.cls MX1_become.1 MX1_become.1 ∈ k_tG := ⟨k_memG 88 (by decide +kernel), k_memG 2 (by decide +kernel)⟩
theorem wX1_dropOldest : k_mw MX1_dropOldest 0 := ⟨⟨k_memG 84 (by decide +kernel), k_memG 27 (by decide +kernel)⟩, by decide +kernel, by decide +kernel⟩
theorem vX1_dropOldest : Cond.instanceMethod MX1_dropOldest.1 ∈ k_tG ∧ Cond.selects MX1_dropOldest.1.cls MX1_dropOldest.1 MX1_dropOldest.1 ∈ k_tG := ⟨k_memG 83 (by decide +kernel), k_memG 1 (by decide +kernel)⟩
theorem wX2_init : k_mw MX2_init 0 := ⟨⟨k_memG 348 (by decide +kernel), k_memG 24 (by decide +kernel)⟩, by decide +kernel, by decide +kernel⟩
theorem iX2_init : MX2_init.1.name = "<init>" ∧ Cond.instanceMethod MX2_init.1 ∈ k_tG ∧ MX2_init.2.2.2 = none := ⟨rfl, k_memG 347 (by decide +kernel), rfl⟩
theorem wX2_at : k_mw MX2_at 1 := ⟨⟨k_memG 76 (by decide +kernel), k_memG 24 (by decide +kernel)⟩, by decide +kernel, by decide +kernel⟩
theorem vX2_at : Cond.instanceMethod MX2_at.1 ∈ k_tG ∧ Cond.selects MX2_at.1.cls MX2_at.1 MX2_at.1 ∈ k_tG := ⟨k_memG 74 (by decide +kernel), k_memG 75 (by decide +kernel)⟩
theorem wX2_set : k_mw MX2_set 2 := ⟨⟨k_memG 93 (by decide +kernel), k_memG 24 (by decide +kernel)⟩, by decide +kernel, by decide +kernel⟩
theorem vX2_set : Cond.instanceMethod MX2_set.1 ∈ k_tG ∧ Cond.selects MX2_set.1.cls MX2_set.1 MX2_set.1 ∈ k_tG := ⟨k_memG 91 (by decide +kernel), k_memG 92 (by decide +kernel)⟩
theorem wX2_working : k_mw MX2_working 2 := ⟨⟨k_memG 204 (by decide +kernel), k_memG 24 (by decide +kernel)⟩, by decide +kernel, by decide +kernel⟩
theorem vX2_working : Cond.instanceMethod MX2_working.1 ∈ k_tG ∧ Cond.selects MX2_working.1.cls MX2_working.1 MX2_working.1 ∈ k_tG := ⟨k_memG 202 (by decide +kernel), k_memG 203 (by decide +kernel)⟩
theorem wX3_init : k_mw MX3_init 4 := ⟨⟨k_memG 374 (by decide +kernel), k_memG 26 (by decide +kernel)⟩, by decide +kernel, by decide +kernel⟩
theorem iX3_init : MX3_init.1.name = "<init>" ∧ Cond.instanceMethod MX3_init.1 ∈ k_tG ∧ MX3_init.2.2.2 = none := ⟨rfl, k_memG 373 (by decide +kernel), rfl⟩
theorem wX3_brought : k_mw MX3_brought 3 := ⟨⟨k_memG 161 (by decide +kernel), k_memG 26 (by decide +kernel)⟩, by decide +kernel, by decide +kernel⟩
theorem vX3_brought : Cond.instanceMethod MX3_brought.1 ∈ k_tG ∧ Cond.selects MX3_brought.1.cls MX3_brought.1 MX3_brought.1 ∈ k_tG := ⟨k_memG 159 (by decide +kernel), k_memG 160 (by decide +kernel)⟩
theorem wX3_strengthOf : k_mw MX3_strengthOf 3 := ⟨⟨k_memG 144 (by decide +kernel), k_memG 26 (by decide +kernel)⟩, by decide +kernel, by decide +kernel⟩
theorem vX3_strengthOf : Cond.instanceMethod MX3_strengthOf.1 ∈ k_tG ∧ Cond.selects MX3_strengthOf.1.cls MX3_strengthOf.1 MX3_strengthOf.1 ∈ k_tG := ⟨k_memG 142 (by decide +kernel), k_memG 5 (by decide +kernel)⟩
theorem wX3_tirednessOf : k_mw MX3_tirednessOf 3 := ⟨⟨k_memG 153 (by decide +kernel), k_memG 26 (by decide +kernel)⟩, by decide +kernel, by decide +kernel⟩
theorem vX3_tirednessOf : Cond.instanceMethod MX3_tirednessOf.1 ∈ k_tG ∧ Cond.selects MX3_tirednessOf.1.cls MX3_tirednessOf.1 MX3_tirednessOf.1 ∈ k_tG := ⟨k_memG 152 (by decide +kernel), k_memG 6 (by decide +kernel)⟩
theorem wX3_strongBy : k_mw MX3_strongBy 3 := ⟨⟨k_memG 138 (by decide +kernel), k_memG 26 (by decide +kernel)⟩, by decide +kernel, by decide +kernel⟩
theorem vX3_strongBy : Cond.instanceMethod MX3_strongBy.1 ∈ k_tG ∧ Cond.selects MX3_strongBy.1.cls MX3_strongBy.1 MX3_strongBy.1 ∈ k_tG := ⟨k_memG 136 (by decide +kernel), k_memG 137 (by decide +kernel)⟩
theorem wX3_tiredBy : k_mw MX3_tiredBy 3 := ⟨⟨k_memG 149 (by decide +kernel), k_memG 26 (by decide +kernel)⟩, by decide +kernel, by decide +kernel⟩
theorem vX3_tiredBy : Cond.instanceMethod MX3_tiredBy.1 ∈ k_tG ∧ Cond.selects MX3_tiredBy.1.cls MX3_tiredBy.1 MX3_tiredBy.1 ∈ k_tG := ⟨k_memG 147 (by decide +kernel), k_memG 148 (by decide +kernel)⟩
theorem wX3_fitOn : k_mw MX3_fitOn 2 := ⟨⟨k_memG 178 (by decide +kernel), k_memG 26 (by decide +kernel)⟩, by decide +kernel, by decide +kernel⟩
theorem vX3_fitOn : Cond.instanceMethod MX3_fitOn.1 ∈ k_tG ∧ Cond.selects MX3_fitOn.1.cls MX3_fitOn.1 MX3_fitOn.1 ∈ k_tG := ⟨k_memG 176 (by decide +kernel), k_memG 177 (by decide +kernel)⟩
theorem wX3_leadingDay : k_mw MX3_leadingDay 2 := ⟨⟨k_memG 169 (by decide +kernel), k_memG 26 (by decide +kernel)⟩, by decide +kernel, by decide +kernel⟩
theorem vX3_leadingDay : Cond.instanceMethod MX3_leadingDay.1 ∈ k_tG ∧ Cond.selects MX3_leadingDay.1.cls MX3_leadingDay.1 MX3_leadingDay.1 ∈ k_tG := ⟨k_memG 167 (by decide +kernel), k_memG 168 (by decide +kernel)⟩
theorem wX4_init : k_mw MX4_init 4 := ⟨⟨k_memG 433 (by decide +kernel), k_memG 28 (by decide +kernel)⟩, by decide +kernel, by decide +kernel⟩
theorem iX4_init : MX4_init.1.name = "<init>" ∧ Cond.instanceMethod MX4_init.1 ∈ k_tG ∧ MX4_init.2.2.2 = none := ⟨rfl, k_memG 432 (by decide +kernel), rfl⟩
theorem wX5_init : k_mw MX5_init 0 := ⟨⟨k_memG 358 (by decide +kernel), k_memG 25 (by decide +kernel)⟩, by decide +kernel, by decide +kernel⟩
theorem iX5_init : MX5_init.1.name = "<init>" ∧ Cond.instanceMethod MX5_init.1 ∈ k_tG ∧ MX5_init.2.2.2 = none := ⟨rfl, k_memG 357 (by decide +kernel), rfl⟩
theorem wX5_add : k_mw MX5_add 2 := ⟨⟨k_memG 589 (by decide +kernel), k_memG 25 (by decide +kernel)⟩, by decide +kernel, by decide +kernel⟩
theorem vX5_add : Cond.instanceMethod MX5_add.1 ∈ k_tG ∧ Cond.selects MX5_add.1.cls MX5_add.1 MX5_add.1 ∈ k_tG := ⟨k_memG 587 (by decide +kernel), k_memG 588 (by decide +kernel)⟩
theorem wX5_isTold : k_mw MX5_isTold 1 := ⟨⟨k_memG 580 (by decide +kernel), k_memG 25 (by decide +kernel)⟩, by decide +kernel, by decide +kernel⟩
theorem vX5_isTold : Cond.instanceMethod MX5_isTold.1 ∈ k_tG ∧ Cond.selects MX5_isTold.1.cls MX5_isTold.1 MX5_isTold.1 ∈ k_tG := ⟨k_memG 578 (by decide +kernel), k_memG 579 (by decide +kernel)⟩
theorem wX5_dayOf : k_mw MX5_dayOf 1 := ⟨⟨k_memG 584 (by decide +kernel), k_memG 25 (by decide +kernel)⟩, by decide +kernel, by decide +kernel⟩
theorem vX5_dayOf : Cond.instanceMethod MX5_dayOf.1 ∈ k_tG ∧ Cond.selects MX5_dayOf.1.cls MX5_dayOf.1 MX5_dayOf.1 ∈ k_tG := ⟨k_memG 582 (by decide +kernel), k_memG 583 (by decide +kernel)⟩
theorem wX6_init : k_mw MX6_init 0 := ⟨⟨k_memG 223 (by decide +kernel), k_memG 19 (by decide +kernel)⟩, by decide +kernel, by decide +kernel⟩
theorem iX6_init : MX6_init.1.name = "<init>" ∧ Cond.instanceMethod MX6_init.1 ∈ k_tG ∧ MX6_init.2.2.2 = none := ⟨rfl, k_memG 222 (by decide +kernel), rfl⟩
theorem wX6_faultOf : k_mw MX6_faultOf 2 := ⟨⟨k_memG 872 (by decide +kernel), k_memG 19 (by decide +kernel)⟩, by decide +kernel, by decide +kernel⟩
theorem vX6_faultOf : Cond.instanceMethod MX6_faultOf.1 ∈ k_tG ∧ Cond.selects MX6_faultOf.1.cls MX6_faultOf.1 MX6_faultOf.1 ∈ k_tG := ⟨k_memG 870 (by decide +kernel), k_memG 871 (by decide +kernel)⟩
theorem wX6_beginsPart : k_mw MX6_beginsPart 1 := ⟨⟨k_memG 877 (by decide +kernel), k_memG 19 (by decide +kernel)⟩, by decide +kernel, by decide +kernel⟩
theorem vX6_beginsPart : Cond.instanceMethod MX6_beginsPart.1 ∈ k_tG ∧ Cond.selects MX6_beginsPart.1.cls MX6_beginsPart.1 MX6_beginsPart.1 ∈ k_tG := ⟨k_memG 876 (by decide +kernel), k_memG 7 (by decide +kernel)⟩
theorem wX6_goesOnBehindPart : k_mw MX6_goesOnBehindPart 1 := ⟨⟨k_memG 896 (by decide +kernel), k_memG 19 (by decide +kernel)⟩, by decide +kernel, by decide +kernel⟩
theorem vX6_goesOnBehindPart : Cond.instanceMethod MX6_goesOnBehindPart.1 ∈ k_tG ∧ Cond.selects MX6_goesOnBehindPart.1.cls MX6_goesOnBehindPart.1 MX6_goesOnBehindPart.1 ∈ k_tG := ⟨k_memG 895 (by decide +kernel), k_memG 10 (by decide +kernel)⟩
theorem wX6_goesOnNumber : k_mw MX6_goesOnNumber 1 := ⟨⟨k_memG 900 (by decide +kernel), k_memG 19 (by decide +kernel)⟩, by decide +kernel, by decide +kernel⟩
theorem vX6_goesOnNumber : Cond.instanceMethod MX6_goesOnNumber.1 ∈ k_tG ∧ Cond.selects MX6_goesOnNumber.1.cls MX6_goesOnNumber.1 MX6_goesOnNumber.1 ∈ k_tG := ⟨k_memG 899 (by decide +kernel), k_memG 11 (by decide +kernel)⟩
theorem wX6_closes : k_mw MX6_closes 0 := ⟨⟨k_memG 904 (by decide +kernel), k_memG 19 (by decide +kernel)⟩, by decide +kernel, by decide +kernel⟩
theorem vX6_closes : Cond.instanceMethod MX6_closes.1 ∈ k_tG ∧ Cond.selects MX6_closes.1.cls MX6_closes.1 MX6_closes.1 ∈ k_tG := ⟨k_memG 903 (by decide +kernel), k_memG 12 (by decide +kernel)⟩
theorem wX6_asks : k_mw MX6_asks 0 := ⟨⟨k_memG 923 (by decide +kernel), k_memG 19 (by decide +kernel)⟩, by decide +kernel, by decide +kernel⟩
theorem vX6_asks : Cond.instanceMethod MX6_asks.1 ∈ k_tG ∧ Cond.selects MX6_asks.1.cls MX6_asks.1 MX6_asks.1 ∈ k_tG := ⟨k_memG 922 (by decide +kernel), k_memG 16 (by decide +kernel)⟩
theorem wX6_endsLine : k_mw MX6_endsLine 0 := ⟨⟨k_memG 919 (by decide +kernel), k_memG 19 (by decide +kernel)⟩, by decide +kernel, by decide +kernel⟩
theorem vX6_endsLine : Cond.instanceMethod MX6_endsLine.1 ∈ k_tG ∧ Cond.selects MX6_endsLine.1.cls MX6_endsLine.1 MX6_endsLine.1 ∈ k_tG := ⟨k_memG 918 (by decide +kernel), k_memG 15 (by decide +kernel)⟩
theorem wX6_emit : k_mw MX6_emit 1 := ⟨⟨k_memG 887 (by decide +kernel), k_memG 19 (by decide +kernel)⟩, by decide +kernel, by decide +kernel⟩
theorem vX6_emit : Cond.instanceMethod MX6_emit.1 ∈ k_tG ∧ Cond.selects MX6_emit.1.cls MX6_emit.1 MX6_emit.1 ∈ k_tG := ⟨k_memG 886 (by decide +kernel), k_memG 8 (by decide +kernel)⟩
theorem wX6_await : k_mw MX6_await 1 := ⟨⟨k_memG 892 (by decide +kernel), k_memG 19 (by decide +kernel)⟩, by decide +kernel, by decide +kernel⟩
theorem vX6_await : Cond.instanceMethod MX6_await.1 ∈ k_tG ∧ Cond.selects MX6_await.1.cls MX6_await.1 MX6_await.1 ∈ k_tG := ⟨k_memG 891 (by decide +kernel), k_memG 9 (by decide +kernel)⟩
theorem wX6_latestWaiting : k_mw MX6_latestWaiting 0 := ⟨⟨k_memG 912 (by decide +kernel), k_memG 19 (by decide +kernel)⟩, by decide +kernel, by decide +kernel⟩
theorem vX6_latestWaiting : Cond.instanceMethod MX6_latestWaiting.1 ∈ k_tG ∧ Cond.selects MX6_latestWaiting.1.cls MX6_latestWaiting.1 MX6_latestWaiting.1 ∈ k_tG := ⟨k_memG 911 (by decide +kernel), k_memG 14 (by decide +kernel)⟩
theorem wX6_emitWaiting : k_mw MX6_emitWaiting 1 := ⟨⟨k_memG 908 (by decide +kernel), k_memG 19 (by decide +kernel)⟩, by decide +kernel, by decide +kernel⟩
theorem vX6_emitWaiting : Cond.instanceMethod MX6_emitWaiting.1 ∈ k_tG ∧ Cond.selects MX6_emitWaiting.1.cls MX6_emitWaiting.1 MX6_emitWaiting.1 ∈ k_tG := ⟨k_memG 907 (by decide +kernel), k_memG 13 (by decide +kernel)⟩
theorem wX6_isDigit : k_mw MX6_isDigit 1 := ⟨⟨k_memG 880 (by decide +kernel), k_memG 19 (by decide +kernel)⟩, by decide +kernel, by decide +kernel⟩
theorem sX6_isDigit : Cond.static MX6_isDigit.1 ∈ k_tG := k_memG 879 (by decide +kernel)
theorem wX6_levelOf : k_mw MX6_levelOf 1 := ⟨⟨k_memG 915 (by decide +kernel), k_memG 19 (by decide +kernel)⟩, by decide +kernel, by decide +kernel⟩
theorem sX6_levelOf : Cond.static MX6_levelOf.1 ∈ k_tG := k_memG 914 (by decide +kernel)
theorem wX7_init : k_mw MX7_init 0 := ⟨⟨k_memG 282 (by decide +kernel), k_memG 21 (by decide +kernel)⟩, by decide +kernel, by decide +kernel⟩
theorem iX7_init : MX7_init.1.name = "<init>" ∧ Cond.instanceMethod MX7_init.1 ∈ k_tG ∧ MX7_init.2.2.2 = none := ⟨rfl, k_memG 281 (by decide +kernel), rfl⟩
theorem wX8_init : k_mw MX8_init 0 := ⟨⟨k_memG 325 (by decide +kernel), k_memG 23 (by decide +kernel)⟩, by decide +kernel, by decide +kernel⟩
theorem iX8_init : MX8_init.1.name = "<init>" ∧ Cond.instanceMethod MX8_init.1 ∈ k_tG ∧ MX8_init.2.2.2 = none := ⟨rfl, k_memG 324 (by decide +kernel), rfl⟩
theorem wX8_add : k_mw MX8_add 3 := ⟨⟨k_memG 102 (by decide +kernel), k_memG 23 (by decide +kernel)⟩, by decide +kernel, by decide +kernel⟩
theorem vX8_add : Cond.instanceMethod MX8_add.1 ∈ k_tG ∧ Cond.selects MX8_add.1.cls MX8_add.1 MX8_add.1 ∈ k_tG := ⟨k_memG 100 (by decide +kernel), k_memG 101 (by decide +kernel)⟩
theorem wX8_fillLeft : k_mw MX8_fillLeft 2 := ⟨⟨k_memG 108 (by decide +kernel), k_memG 23 (by decide +kernel)⟩, by decide +kernel, by decide +kernel⟩
theorem vX8_fillLeft : Cond.instanceMethod MX8_fillLeft.1 ∈ k_tG ∧ Cond.selects MX8_fillLeft.1.cls MX8_fillLeft.1 MX8_fillLeft.1 ∈ k_tG := ⟨k_memG 106 (by decide +kernel), k_memG 3 (by decide +kernel)⟩
theorem wX8_has : k_mw MX8_has 1 := ⟨⟨k_memG 133 (by decide +kernel), k_memG 23 (by decide +kernel)⟩, by decide +kernel, by decide +kernel⟩
theorem vX8_has : Cond.instanceMethod MX8_has.1 ∈ k_tG ∧ Cond.selects MX8_has.1.cls MX8_has.1 MX8_has.1 ∈ k_tG := ⟨k_memG 131 (by decide +kernel), k_memG 132 (by decide +kernel)⟩
theorem wX9_init : k_mw MX9_init 0 := ⟨⟨k_memG 439 (by decide +kernel), k_memG 29 (by decide +kernel)⟩, by decide +kernel, by decide +kernel⟩
theorem iX9_init : MX9_init.1.name = "<init>" ∧ Cond.instanceMethod MX9_init.1 ∈ k_tG ∧ MX9_init.2.2.2 = none := ⟨rfl, k_memG 438 (by decide +kernel), rfl⟩
theorem wX9_become : k_mw MX9_become 1 := ⟨⟨k_memG 927 (by decide +kernel), k_memG 29 (by decide +kernel)⟩, by decide +kernel, by decide +kernel⟩
theorem vX9_become : Cond.instanceMethod MX9_become.1 ∈ k_tG ∧ Cond.selects MX9_become.1.cls MX9_become.1 MX9_become.1 ∈ k_tG := ⟨k_memG 925 (by decide +kernel), k_memG 926 (by decide +kernel)⟩
theorem wX9_nameOf : k_mw MX9_nameOf 1 := ⟨⟨k_memG 883 (by decide +kernel), k_memG 29 (by decide +kernel)⟩, by decide +kernel, by decide +kernel⟩
theorem sX9_nameOf : Cond.static MX9_nameOf.1 ∈ k_tG := k_memG 882 (by decide +kernel)
theorem wX10_init : k_mw MX10_init 0 := ⟨⟨k_memG 302 (by decide +kernel), k_memG 22 (by decide +kernel)⟩, by decide +kernel, by decide +kernel⟩
theorem iX10_init : MX10_init.1.name = "<init>" ∧ Cond.instanceMethod MX10_init.1 ∈ k_tG ∧ MX10_init.2.2.2 = none := ⟨rfl, k_memG 301 (by decide +kernel), rfl⟩
theorem wX10_add : k_mw MX10_add 3 := ⟨⟨k_memG 49 (by decide +kernel), k_memG 22 (by decide +kernel)⟩, by decide +kernel, by decide +kernel⟩
theorem vX10_add : Cond.instanceMethod MX10_add.1 ∈ k_tG ∧ Cond.selects MX10_add.1.cls MX10_add.1 MX10_add.1 ∈ k_tG := ⟨k_memG 47 (by decide +kernel), k_memG 48 (by decide +kernel)⟩
theorem wX10_has : k_mw MX10_has 1 := ⟨⟨k_memG 60 (by decide +kernel), k_memG 22 (by decide +kernel)⟩, by decide +kernel, by decide +kernel⟩
theorem vX10_has : Cond.instanceMethod MX10_has.1 ∈ k_tG ∧ Cond.selects MX10_has.1.cls MX10_has.1 MX10_has.1 ∈ k_tG := ⟨k_memG 58 (by decide +kernel), k_memG 59 (by decide +kernel)⟩
theorem wX11_init : k_mw MX11_init 0 := ⟨⟨k_memG 215 (by decide +kernel), k_memG 18 (by decide +kernel)⟩, by decide +kernel, by decide +kernel⟩
theorem iX11_init : MX11_init.1.name = "<init>" ∧ Cond.instanceMethod MX11_init.1 ∈ k_tG ∧ MX11_init.2.2.2 = none := ⟨rfl, k_memG 214 (by decide +kernel), rfl⟩
theorem wX11_work : k_mw MX11_work 1 := ⟨⟨k_memG 44 (by decide +kernel), k_memG 18 (by decide +kernel)⟩, by decide +kernel, by decide +kernel⟩
theorem vX11_work : Cond.instanceMethod MX11_work.1 ∈ k_tG ∧ Cond.selects MX11_work.1.cls MX11_work.1 MX11_work.1 ∈ k_tG := ⟨k_memG 42 (by decide +kernel), k_memG 43 (by decide +kernel)⟩
theorem wX11_mend : k_mw MX11_mend 3 := ⟨⟨k_memG 56 (by decide +kernel), k_memG 18 (by decide +kernel)⟩, by decide +kernel, by decide +kernel⟩
theorem vX11_mend : Cond.instanceMethod MX11_mend.1 ∈ k_tG ∧ Cond.selects MX11_mend.1.cls MX11_mend.1 MX11_mend.1 ∈ k_tG := ⟨k_memG 54 (by decide +kernel), k_memG 55 (by decide +kernel)⟩
theorem wX11_runner : k_mw MX11_runner 2 := ⟨⟨k_memG 98 (by decide +kernel), k_memG 18 (by decide +kernel)⟩, by decide +kernel, by decide +kernel⟩
theorem vX11_runner : Cond.instanceMethod MX11_runner.1 ∈ k_tG ∧ Cond.selects MX11_runner.1.cls MX11_runner.1 MX11_runner.1 ∈ k_tG := ⟨k_memG 96 (by decide +kernel), k_memG 97 (by decide +kernel)⟩
theorem wX11_plan : k_mw MX11_plan 2 := ⟨⟨k_memG 112 (by decide +kernel), k_memG 18 (by decide +kernel)⟩, by decide +kernel, by decide +kernel⟩
theorem vX11_plan : Cond.instanceMethod MX11_plan.1 ∈ k_tG ∧ Cond.selects MX11_plan.1.cls MX11_plan.1 MX11_plan.1 ∈ k_tG := ⟨k_memG 110 (by decide +kernel), k_memG 111 (by decide +kernel)⟩
theorem wX11_of : k_mw MX11_of 1 := ⟨⟨k_memG 119 (by decide +kernel), k_memG 18 (by decide +kernel)⟩, by decide +kernel, by decide +kernel⟩
theorem vX11_of : Cond.instanceMethod MX11_of.1 ∈ k_tG ∧ Cond.selects MX11_of.1.cls MX11_of.1 MX11_of.1 ∈ k_tG := ⟨k_memG 117 (by decide +kernel), k_memG 118 (by decide +kernel)⟩
theorem wX11_fit : k_mw MX11_fit 2 := ⟨⟨k_memG 124 (by decide +kernel), k_memG 18 (by decide +kernel)⟩, by decide +kernel, by decide +kernel⟩
theorem vX11_fit : Cond.instanceMethod MX11_fit.1 ∈ k_tG ∧ Cond.selects MX11_fit.1.cls MX11_fit.1 MX11_fit.1 ∈ k_tG := ⟨k_memG 122 (by decide +kernel), k_memG 123 (by decide +kernel)⟩
theorem wX11_points : k_mw MX11_points 3 := ⟨⟨k_memG 157 (by decide +kernel), k_memG 18 (by decide +kernel)⟩, by decide +kernel, by decide +kernel⟩
theorem vX11_points : Cond.instanceMethod MX11_points.1 ∈ k_tG ∧ Cond.selects MX11_points.1.cls MX11_points.1 MX11_points.1 ∈ k_tG := ⟨k_memG 155 (by decide +kernel), k_memG 156 (by decide +kernel)⟩
theorem wX11_counts : k_mw MX11_counts 2 := ⟨⟨k_memG 576 (by decide +kernel), k_memG 18 (by decide +kernel)⟩, by decide +kernel, by decide +kernel⟩
theorem vX11_counts : Cond.instanceMethod MX11_counts.1 ∈ k_tG ∧ Cond.selects MX11_counts.1.cls MX11_counts.1 MX11_counts.1 ∈ k_tG := ⟨k_memG 574 (by decide +kernel), k_memG 575 (by decide +kernel)⟩
theorem wX11_led : k_mw MX11_led 1 := ⟨⟨k_memG 165 (by decide +kernel), k_memG 18 (by decide +kernel)⟩, by decide +kernel, by decide +kernel⟩
theorem vX11_led : Cond.instanceMethod MX11_led.1 ∈ k_tG ∧ Cond.selects MX11_led.1.cls MX11_led.1 MX11_led.1 ∈ k_tG := ⟨k_memG 163 (by decide +kernel), k_memG 164 (by decide +kernel)⟩
theorem wX11_feed : k_mw MX11_feed 2 := ⟨⟨k_memG 863 (by decide +kernel), k_memG 18 (by decide +kernel)⟩, by decide +kernel, by decide +kernel⟩
theorem vX11_feed : Cond.instanceMethod MX11_feed.1 ∈ k_tG ∧ Cond.selects MX11_feed.1.cls MX11_feed.1 MX11_feed.1 ∈ k_tG := ⟨k_memG 861 (by decide +kernel), k_memG 862 (by decide +kernel)⟩
theorem wX11_text : k_mw MX11_text 1 := ⟨⟨k_memG 868 (by decide +kernel), k_memG 18 (by decide +kernel)⟩, by decide +kernel, by decide +kernel⟩
theorem vX11_text : Cond.instanceMethod MX11_text.1 ∈ k_tG ∧ Cond.selects MX11_text.1.cls MX11_text.1 MX11_text.1 ∈ k_tG := ⟨k_memG 866 (by decide +kernel), k_memG 867 (by decide +kernel)⟩
theorem wX11_lost : k_mw MX11_lost 1 := ⟨⟨k_memG 936 (by decide +kernel), k_memG 18 (by decide +kernel)⟩, by decide +kernel, by decide +kernel⟩
theorem vX11_lost : Cond.instanceMethod MX11_lost.1 ∈ k_tG ∧ Cond.selects MX11_lost.1.cls MX11_lost.1 MX11_lost.1 ∈ k_tG := ⟨k_memG 934 (by decide +kernel), k_memG 935 (by decide +kernel)⟩
theorem wX11_alike : k_mw MX11_alike 1 := ⟨⟨k_memG 174 (by decide +kernel), k_memG 18 (by decide +kernel)⟩, by decide +kernel, by decide +kernel⟩
theorem vX11_alike : Cond.instanceMethod MX11_alike.1 ∈ k_tG ∧ Cond.selects MX11_alike.1.cls MX11_alike.1 MX11_alike.1 ∈ k_tG := ⟨k_memG 172 (by decide +kernel), k_memG 173 (by decide +kernel)⟩
theorem wX11_undo : k_mw MX11_undo 0 := ⟨⟨k_memG 184 (by decide +kernel), k_memG 18 (by decide +kernel)⟩, by decide +kernel, by decide +kernel⟩
theorem vX11_undo : Cond.instanceMethod MX11_undo.1 ∈ k_tG ∧ Cond.selects MX11_undo.1.cls MX11_undo.1 MX11_undo.1 ∈ k_tG := ⟨k_memG 182 (by decide +kernel), k_memG 183 (by decide +kernel)⟩
theorem wX11_redo : k_mw MX11_redo 0 := ⟨⟨k_memG 192 (by decide +kernel), k_memG 18 (by decide +kernel)⟩, by decide +kernel, by decide +kernel⟩
theorem vX11_redo : Cond.instanceMethod MX11_redo.1 ∈ k_tG ∧ Cond.selects MX11_redo.1.cls MX11_redo.1 MX11_redo.1 ∈ k_tG := ⟨k_memG 190 (by decide +kernel), k_memG 191 (by decide +kernel)⟩
theorem wX11_count : k_mw MX11_count 1 := ⟨⟨k_memG 200 (by decide +kernel), k_memG 18 (by decide +kernel)⟩, by decide +kernel, by decide +kernel⟩
theorem vX11_count : Cond.instanceMethod MX11_count.1 ∈ k_tG ∧ Cond.selects MX11_count.1.cls MX11_count.1 MX11_count.1 ∈ k_tG := ⟨k_memG 198 (by decide +kernel), k_memG 199 (by decide +kernel)⟩
theorem wX11_within : k_mw MX11_within 3 := ⟨⟨k_memG 63 (by decide +kernel), k_memG 18 (by decide +kernel)⟩, by decide +kernel, by decide +kernel⟩
theorem sX11_within : Cond.static MX11_within.1 ∈ k_tG := k_memG 62 (by decide +kernel)
theorem wX11_isDay : k_mw MX11_isDay 1 := ⟨⟨k_memG 115 (by decide +kernel), k_memG 18 (by decide +kernel)⟩, by decide +kernel, by decide +kernel⟩
theorem sX11_isDay : Cond.static MX11_isDay.1 ∈ k_tG := k_memG 114 (by decide +kernel)
theorem wX11_read : k_mw MX11_read 2 := ⟨⟨k_memG 79 (by decide +kernel), k_memG 18 (by decide +kernel)⟩, by decide +kernel, by decide +kernel⟩
theorem sX11_read : Cond.static MX11_read.1 ∈ k_tG := k_memG 78 (by decide +kernel)
theorem wX11_write : k_mw MX11_write 3 := ⟨⟨k_memG 52 (by decide +kernel), k_memG 18 (by decide +kernel)⟩, by decide +kernel, by decide +kernel⟩
theorem sX11_write : Cond.static MX11_write.1 ∈ k_tG := k_memG 51 (by decide +kernel)
theorem wX11_isRunnersDay : k_mw MX11_isRunnersDay 1 := ⟨⟨k_memG 129 (by decide +kernel), k_memG 18 (by decide +kernel)⟩, by decide +kernel, by decide +kernel⟩
theorem vX11_isRunnersDay : Cond.instanceMethod MX11_isRunnersDay.1 ∈ k_tG ∧ Cond.selects MX11_isRunnersDay.1.cls MX11_isRunnersDay.1 MX11_isRunnersDay.1 ∈ k_tG := ⟨k_memG 127 (by decide +kernel), k_memG 4 (by decide +kernel)⟩
theorem wJ5_init_d00df : k_mw MJ5_init_d00df 1 := ⟨⟨k_memG 598 (by decide +kernel), k_memG 30 (by decide +kernel)⟩, by decide +kernel, by decide +kernel⟩
theorem iJ5_init_d00df : MJ5_init_d00df.1.name = "<init>" ∧ Cond.instanceMethod MJ5_init_d00df.1 ∈ k_tG ∧ MJ5_init_d00df.2.2.2 = none := ⟨rfl, k_memG 597 (by decide +kernel), rfl⟩
theorem wJ5_length_8abf5 : k_mw MJ5_length_8abf5 0 := ⟨⟨k_memG 797 (by decide +kernel), k_memG 30 (by decide +kernel)⟩, by decide +kernel, by decide +kernel⟩
theorem zJ5_length_8abf5 : Cond.sameMethod MJ5_length_8abf5.1.cls MJ5_length_8abf5.1.cls MJ5_length_8abf5.1.name MJ5_length_8abf5.1.desc ∈ k_tG ∧ Cond.superclass RJ4 MJ5_length_8abf5.1.cls ∈ k_tG ∧ Cond.instanceMethod MJ5_length_8abf5.1 ∈ k_tG := ⟨k_memG 792 (by decide +kernel), k_memG 621 (by decide +kernel), k_memG 791 (by decide +kernel)⟩
theorem wJ5_ensureCapacityInternal_d00df : k_mw MJ5_ensureCapacityInternal_d00df 1 := ⟨⟨k_memG 638 (by decide +kernel), k_memG 30 (by decide +kernel)⟩, by decide +kernel, by decide +kernel⟩
theorem uJ5_ensureCapacityInternal_d00df : Cond.sameMethod MJ5_ensureCapacityInternal_d00df.1.cls MJ5_ensureCapacityInternal_d00df.1.cls MJ5_ensureCapacityInternal_d00df.1.name MJ5_ensureCapacityInternal_d00df.1.desc ∈ k_tG ∧ Cond.selects RJ4 MJ5_ensureCapacityInternal_d00df.1 MJ5_ensureCapacityInternal_d00df.1 ∈ k_tG ∧ Cond.instanceMethod MJ5_ensureCapacityInternal_d00df.1 ∈ k_tG := ⟨k_memG 948 (by decide +kernel), k_inJ (List.mem_of_getElem? (i := 0) rfl) rfl, k_memG 637 (by decide +kernel)⟩
theorem wJ5_newCapacity_0f7a4 : k_mw MJ5_newCapacity_0f7a4 1 := ⟨⟨k_memG 642 (by decide +kernel), k_memG 30 (by decide +kernel)⟩, by decide +kernel, by decide +kernel⟩
theorem uJ5_newCapacity_0f7a4 : Cond.sameMethod MJ5_newCapacity_0f7a4.1.cls MJ5_newCapacity_0f7a4.1.cls MJ5_newCapacity_0f7a4.1.name MJ5_newCapacity_0f7a4.1.desc ∈ k_tG ∧ Cond.selects RJ4 MJ5_newCapacity_0f7a4.1 MJ5_newCapacity_0f7a4.1 ∈ k_tG ∧ Cond.instanceMethod MJ5_newCapacity_0f7a4.1 ∈ k_tG := ⟨k_memG 949 (by decide +kernel), k_inJ (List.mem_of_getElem? (i := 1) rfl) rfl, k_memG 641 (by decide +kernel)⟩
theorem wJ5_inflate_da8c8 : k_mw MJ5_inflate_da8c8 0 := ⟨⟨k_memG 722 (by decide +kernel), k_memG 30 (by decide +kernel)⟩, by decide +kernel, by decide +kernel⟩
theorem uJ5_inflate_da8c8 : Cond.sameMethod MJ5_inflate_da8c8.1.cls MJ5_inflate_da8c8.1.cls MJ5_inflate_da8c8.1.name MJ5_inflate_da8c8.1.desc ∈ k_tG ∧ Cond.selects RJ4 MJ5_inflate_da8c8.1 MJ5_inflate_da8c8.1 ∈ k_tG ∧ Cond.instanceMethod MJ5_inflate_da8c8.1 ∈ k_tG := ⟨k_memG 952 (by decide +kernel), k_inJ (List.mem_of_getElem? (i := 2) rfl) rfl, k_memG 721 (by decide +kernel)⟩
theorem wJ5_append_cf1ce : k_mw MJ5_append_cf1ce 1 := ⟨⟨k_memG 630 (by decide +kernel), k_memG 30 (by decide +kernel)⟩, by decide +kernel, by decide +kernel⟩
theorem zJ5_append_cf1ce : Cond.sameMethod MJ5_append_cf1ce.1.cls MJ5_append_cf1ce.1.cls MJ5_append_cf1ce.1.name MJ5_append_cf1ce.1.desc ∈ k_tG ∧ Cond.superclass RJ4 MJ5_append_cf1ce.1.cls ∈ k_tG ∧ Cond.instanceMethod MJ5_append_cf1ce.1 ∈ k_tG := ⟨k_memG 946 (by decide +kernel), k_memG 621 (by decide +kernel), k_memG 629 (by decide +kernel)⟩
theorem wJ5_appendNull_278bc : k_mw MJ5_appendNull_278bc 0 := ⟨⟨k_memG 634 (by decide +kernel), k_memG 30 (by decide +kernel)⟩, by decide +kernel, by decide +kernel⟩
theorem uJ5_appendNull_278bc : Cond.sameMethod MJ5_appendNull_278bc.1.cls MJ5_appendNull_278bc.1.cls MJ5_appendNull_278bc.1.name MJ5_appendNull_278bc.1.desc ∈ k_tG ∧ Cond.selects RJ4 MJ5_appendNull_278bc.1 MJ5_appendNull_278bc.1 ∈ k_tG ∧ Cond.instanceMethod MJ5_appendNull_278bc.1 ∈ k_tG := ⟨k_memG 947 (by decide +kernel), k_inJ (List.mem_of_getElem? (i := 3) rfl) rfl, k_memG 633 (by decide +kernel)⟩
theorem wJ5_append_c97b9 : k_mw MJ5_append_c97b9 1 := ⟨⟨k_memG 750 (by decide +kernel), k_memG 30 (by decide +kernel)⟩, by decide +kernel, by decide +kernel⟩
theorem zJ5_append_c97b9 : Cond.sameMethod MJ5_append_c97b9.1.cls MJ5_append_c97b9.1.cls MJ5_append_c97b9.1.name MJ5_append_c97b9.1.desc ∈ k_tG ∧ Cond.superclass RJ4 MJ5_append_c97b9.1.cls ∈ k_tG ∧ Cond.instanceMethod MJ5_append_c97b9.1 ∈ k_tG := ⟨k_memG 953 (by decide +kernel), k_memG 621 (by decide +kernel), k_memG 749 (by decide +kernel)⟩
theorem wJ5_getValue_6d5f1 : k_mw MJ5_getValue_6d5f1 0 := ⟨⟨k_memG 789 (by decide +kernel), k_memG 30 (by decide +kernel)⟩, by decide +kernel, by decide +kernel⟩
theorem uJ5_getValue_6d5f1 : Cond.sameMethod MJ5_getValue_6d5f1.1.cls MJ5_getValue_6d5f1.1.cls MJ5_getValue_6d5f1.1.name MJ5_getValue_6d5f1.1.desc ∈ k_tG ∧ Cond.selects RJ4 MJ5_getValue_6d5f1.1 MJ5_getValue_6d5f1.1 ∈ k_tG ∧ Cond.instanceMethod MJ5_getValue_6d5f1.1 ∈ k_tG := ⟨k_memG 787 (by decide +kernel), k_memG 788 (by decide +kernel), k_memG 786 (by decide +kernel)⟩
theorem wJ5_isLatin1_aae02 : k_mw MJ5_isLatin1_aae02 0 := ⟨⟨k_memG 674 (by decide +kernel), k_memG 30 (by decide +kernel)⟩, by decide +kernel, by decide +kernel⟩
theorem uJ5_isLatin1_aae02 : Cond.sameMethod MJ5_isLatin1_aae02.1.cls MJ5_isLatin1_aae02.1.cls MJ5_isLatin1_aae02.1.name MJ5_isLatin1_aae02.1.desc ∈ k_tG ∧ Cond.selects RJ4 MJ5_isLatin1_aae02.1 MJ5_isLatin1_aae02.1 ∈ k_tG ∧ Cond.instanceMethod MJ5_isLatin1_aae02.1 ∈ k_tG := ⟨k_memG 672 (by decide +kernel), k_memG 673 (by decide +kernel), k_memG 671 (by decide +kernel)⟩
theorem wJ5_inflateIfNeededFor_a7421 : k_mw MJ5_inflateIfNeededFor_a7421 1 := ⟨⟨k_memG 717 (by decide +kernel), k_memG 30 (by decide +kernel)⟩, by decide +kernel, by decide +kernel⟩
theorem uJ5_inflateIfNeededFor_a7421 : Cond.sameMethod MJ5_inflateIfNeededFor_a7421.1.cls MJ5_inflateIfNeededFor_a7421.1.cls MJ5_inflateIfNeededFor_a7421.1.name MJ5_inflateIfNeededFor_a7421.1.desc ∈ k_tG ∧ Cond.selects RJ4 MJ5_inflateIfNeededFor_a7421.1 MJ5_inflateIfNeededFor_a7421.1 ∈ k_tG ∧ Cond.instanceMethod MJ5_inflateIfNeededFor_a7421.1 ∈ k_tG := ⟨k_memG 951 (by decide +kernel), k_inJ (List.mem_of_getElem? (i := 4) rfl) rfl, k_memG 716 (by decide +kernel)⟩
theorem wJ5_putStringAt_47b60 : k_mw MJ5_putStringAt_47b60 2 := ⟨⟨k_memG 713 (by decide +kernel), k_memG 30 (by decide +kernel)⟩, by decide +kernel, by decide +kernel⟩
theorem uJ5_putStringAt_47b60 : Cond.sameMethod MJ5_putStringAt_47b60.1.cls MJ5_putStringAt_47b60.1.cls MJ5_putStringAt_47b60.1.name MJ5_putStringAt_47b60.1.desc ∈ k_tG ∧ Cond.selects RJ4 MJ5_putStringAt_47b60.1 MJ5_putStringAt_47b60.1 ∈ k_tG ∧ Cond.instanceMethod MJ5_putStringAt_47b60.1 ∈ k_tG := ⟨k_memG 950 (by decide +kernel), k_inJ (List.mem_of_getElem? (i := 5) rfl) rfl, k_memG 712 (by decide +kernel)⟩
theorem wJ6_getChars_ba4f3 : k_mw MJ6_getChars_ba4f3 3 := ⟨⟨k_memG 756 (by decide +kernel), k_memG 40 (by decide +kernel)⟩, by decide +kernel, by decide +kernel⟩
theorem sJ6_getChars_ba4f3 : Cond.static MJ6_getChars_ba4f3.1 ∈ k_tG := k_memG 755 (by decide +kernel)
theorem wJ6_stringSize_0f7a4 : k_mw MJ6_stringSize_0f7a4 1 := ⟨⟨k_memG 753 (by decide +kernel), k_memG 40 (by decide +kernel)⟩, by decide +kernel, by decide +kernel⟩
theorem sJ6_stringSize_0f7a4 : Cond.static MJ6_stringSize_0f7a4.1 ∈ k_tG := k_memG 752 (by decide +kernel)
theorem wJ9_max_7cf53 : k_mw MJ9_max_7cf53 2 := ⟨⟨k_memG 648 (by decide +kernel), k_memG 35 (by decide +kernel)⟩, by decide +kernel, by decide +kernel⟩
theorem sJ9_max_7cf53 : Cond.static MJ9_max_7cf53.1 ∈ k_tG := k_memG 647 (by decide +kernel)
theorem wJ9_min_7cf53 : k_mw MJ9_min_7cf53 2 := ⟨⟨k_memG 666 (by decide +kernel), k_memG 35 (by decide +kernel)⟩, by decide +kernel, by decide +kernel⟩
theorem sJ9_min_7cf53 : Cond.static MJ9_min_7cf53.1 ∈ k_tG := k_memG 665 (by decide +kernel)
theorem wJ0_init_81219 : k_mw MJ0_init_81219 1 := ⟨⟨k_memG 780 (by decide +kernel), k_memG 32 (by decide +kernel)⟩, by decide +kernel, by decide +kernel⟩
theorem iJ0_init_81219 : MJ0_init_81219.1.name = "<init>" ∧ Cond.instanceMethod MJ0_init_81219.1 ∈ k_tG ∧ MJ0_init_81219.2.2.2 = none := ⟨rfl, k_memG 779 (by decide +kernel), rfl⟩
theorem wJ0_length_8abf5 : k_mw MJ0_length_8abf5 0 := ⟨⟨k_memG 704 (by decide +kernel), k_memG 32 (by decide +kernel)⟩, by decide +kernel, by decide +kernel⟩
theorem vJ0_length_8abf5 : Cond.instanceMethod MJ0_length_8abf5.1 ∈ k_tG ∧ Cond.selects MJ0_length_8abf5.1.cls MJ0_length_8abf5.1 MJ0_length_8abf5.1 ∈ k_tG := ⟨k_memG 702 (by decide +kernel), k_memG 703 (by decide +kernel)⟩
theorem wJ0_charAt_5068e : k_mw MJ0_charAt_5068e 1 := ⟨⟨k_memG 839 (by decide +kernel), k_memG 32 (by decide +kernel)⟩, by decide +kernel, by decide +kernel⟩
theorem vJ0_charAt_5068e : Cond.instanceMethod MJ0_charAt_5068e.1 ∈ k_tG ∧ Cond.selects MJ0_charAt_5068e.1.cls MJ0_charAt_5068e.1 MJ0_charAt_5068e.1 ∈ k_tG := ⟨k_memG 837 (by decide +kernel), k_memG 838 (by decide +kernel)⟩
theorem wJ0_getBytes_840e7 : k_mw MJ0_getBytes_840e7 3 := ⟨⟨k_memG 741 (by decide +kernel), k_memG 32 (by decide +kernel)⟩, by decide +kernel, by decide +kernel⟩
theorem vJ0_getBytes_840e7 : Cond.instanceMethod MJ0_getBytes_840e7.1 ∈ k_tG ∧ Cond.selects MJ0_getBytes_840e7.1.cls MJ0_getBytes_840e7.1 MJ0_getBytes_840e7.1 ∈ k_tG := ⟨k_memG 739 (by decide +kernel), k_memG 740 (by decide +kernel)⟩
theorem wJ0_init_db425 : k_mw MJ0_init_db425 2 := ⟨⟨k_memG 783 (by decide +kernel), k_memG 32 (by decide +kernel)⟩, by decide +kernel, by decide +kernel⟩
theorem iJ0_init_db425 : MJ0_init_db425.1.name = "<init>" ∧ Cond.instanceMethod MJ0_init_db425.1 ∈ k_tG ∧ MJ0_init_db425.2.2.2 = none := ⟨rfl, k_memG 782 (by decide +kernel), rfl⟩
theorem wJ0_coder_7d493 : k_mw MJ0_coder_7d493 0 := ⟨⟨k_memG 708 (by decide +kernel), k_memG 32 (by decide +kernel)⟩, by decide +kernel, by decide +kernel⟩
theorem vJ0_coder_7d493 : Cond.instanceMethod MJ0_coder_7d493.1 ∈ k_tG ∧ Cond.selects MJ0_coder_7d493.1.cls MJ0_coder_7d493.1 MJ0_coder_7d493.1 ∈ k_tG := ⟨k_memG 706 (by decide +kernel), k_memG 707 (by decide +kernel)⟩
theorem wJ0_isLatin1_aae02 : k_mw MJ0_isLatin1_aae02 0 := ⟨⟨k_memG 843 (by decide +kernel), k_memG 32 (by decide +kernel)⟩, by decide +kernel, by decide +kernel⟩
theorem vJ0_isLatin1_aae02 : Cond.instanceMethod MJ0_isLatin1_aae02.1 ∈ k_tG ∧ Cond.selects MJ0_isLatin1_aae02.1.cls MJ0_isLatin1_aae02.1 MJ0_isLatin1_aae02.1 ∈ k_tG := ⟨k_memG 841 (by decide +kernel), k_memG 842 (by decide +kernel)⟩
theorem wJ0_checkIndex_df160 : k_mw MJ0_checkIndex_df160 2 := ⟨⟨k_memG 849 (by decide +kernel), k_memG 32 (by decide +kernel)⟩, by decide +kernel, by decide +kernel⟩
theorem sJ0_checkIndex_df160 : Cond.static MJ0_checkIndex_df160.1 ∈ k_tG := k_memG 848 (by decide +kernel)
theorem wJ0_checkBoundsOffCount_cabcc : k_mw MJ0_checkBoundsOffCount_cabcc 3 := ⟨⟨k_memG 734 (by decide +kernel), k_memG 32 (by decide +kernel)⟩, by decide +kernel, by decide +kernel⟩
theorem sJ0_checkBoundsOffCount_cabcc : Cond.static MJ0_checkBoundsOffCount_cabcc.1 ∈ k_tG := k_memG 733 (by decide +kernel)
theorem wJ0_checkBoundsBeginEnd_23922 : k_mw MJ0_checkBoundsBeginEnd_23922 3 := ⟨⟨k_memG 686 (by decide +kernel), k_memG 32 (by decide +kernel)⟩, by decide +kernel, by decide +kernel⟩
theorem sJ0_checkBoundsBeginEnd_23922 : Cond.static MJ0_checkBoundsBeginEnd_23922.1 ∈ k_tG := k_memG 685 (by decide +kernel)
theorem wJ4_init_da8c8 : k_mw MJ4_init_da8c8 0 := ⟨⟨k_memG 595 (by decide +kernel), k_memG 31 (by decide +kernel)⟩, by decide +kernel, by decide +kernel⟩
theorem iJ4_init_da8c8 : MJ4_init_da8c8.1.name = "<init>" ∧ Cond.instanceMethod MJ4_init_da8c8.1 ∈ k_tG ∧ MJ4_init_da8c8.2.2.2 = none := ⟨rfl, k_memG 594 (by decide +kernel), rfl⟩
theorem wJ4_append_15ec4 : k_mw MJ4_append_15ec4 1 := ⟨⟨k_memG 627 (by decide +kernel), k_memG 31 (by decide +kernel)⟩, by decide +kernel, by decide +kernel⟩
theorem vJ4_append_15ec4 : Cond.instanceMethod MJ4_append_15ec4.1 ∈ k_tG ∧ Cond.selects MJ4_append_15ec4.1.cls MJ4_append_15ec4.1 MJ4_append_15ec4.1 ∈ k_tG := ⟨k_memG 625 (by decide +kernel), k_memG 626 (by decide +kernel)⟩
theorem wJ4_append_bf812 : k_mw MJ4_append_bf812 1 := ⟨⟨k_memG 747 (by decide +kernel), k_memG 31 (by decide +kernel)⟩, by decide +kernel, by decide +kernel⟩
theorem vJ4_append_bf812 : Cond.instanceMethod MJ4_append_bf812.1 ∈ k_tG ∧ Cond.selects MJ4_append_bf812.1.cls MJ4_append_bf812.1 MJ4_append_bf812.1 ∈ k_tG := ⟨k_memG 745 (by decide +kernel), k_memG 746 (by decide +kernel)⟩
theorem wJ4_toString_0e30d : k_mw MJ4_toString_0e30d 0 := ⟨⟨k_memG 775 (by decide +kernel), k_memG 31 (by decide +kernel)⟩, by decide +kernel, by decide +kernel⟩
theorem vJ4_toString_0e30d : Cond.instanceMethod MJ4_toString_0e30d.1 ∈ k_tG ∧ Cond.selects MJ4_toString_0e30d.1.cls MJ4_toString_0e30d.1 MJ4_toString_0e30d.1 ∈ k_tG := ⟨k_memG 773 (by decide +kernel), k_memG 774 (by decide +kernel)⟩
theorem wJ4_length_8abf5 : k_mw MJ4_length_8abf5 0 := ⟨⟨k_memG 795 (by decide +kernel), k_memG 31 (by decide +kernel)⟩, by decide +kernel, by decide +kernel⟩
theorem oJ4_length_8abf5 : Cond.sameMethod MJ5_length_8abf5.1.cls MJ5_length_8abf5.1.cls MJ5_length_8abf5.1.name MJ5_length_8abf5.1.desc ∈ k_tG ∧ Cond.instanceMethod MJ5_length_8abf5.1 ∈ k_tG ∧ Cond.selects RJ4 MJ5_length_8abf5.1 MJ4_length_8abf5.1 ∈ k_tG ∧ Cond.instanceMethod MJ4_length_8abf5.1 ∈ k_tG := ⟨k_memG 792 (by decide +kernel), k_memG 791 (by decide +kernel), k_memG 793 (by decide +kernel), k_memG 794 (by decide +kernel)⟩
theorem wJ1_charAt_3b067 : k_mw MJ1_charAt_3b067 2 := ⟨⟨k_memG 846 (by decide +kernel), k_memG 39 (by decide +kernel)⟩, by decide +kernel, by decide +kernel⟩
theorem sJ1_charAt_3b067 : Cond.static MJ1_charAt_3b067.1 ∈ k_tG := k_memG 845 (by decide +kernel)
theorem wJ1_inflate_0e8fd : k_mw MJ1_inflate_0e8fd 5 := ⟨⟨k_memG 725 (by decide +kernel), k_memG 39 (by decide +kernel)⟩, by decide +kernel, by decide +kernel⟩
theorem sJ1_inflate_0e8fd : Cond.static MJ1_inflate_0e8fd.1 ∈ k_tG := k_memG 724 (by decide +kernel)
theorem wJ2_newBytesFor_77867 : k_mw MJ2_newBytesFor_77867 1 := ⟨⟨k_memG 604 (by decide +kernel), k_memG 33 (by decide +kernel)⟩, by decide +kernel, by decide +kernel⟩
theorem sJ2_newBytesFor_77867 : Cond.static MJ2_newBytesFor_77867.1 ∈ k_tG := k_memG 603 (by decide +kernel)
theorem wJ2_newBytesLength_0f7a4 : k_mw MJ2_newBytesLength_0f7a4 1 := ⟨⟨k_memG 607 (by decide +kernel), k_memG 33 (by decide +kernel)⟩, by decide +kernel, by decide +kernel⟩
theorem sJ2_newBytesLength_0f7a4 : Cond.static MJ2_newBytesLength_0f7a4.1 ∈ k_tG := k_memG 606 (by decide +kernel)
theorem wJ2_putChar_b72d1 : k_mw MJ2_putChar_b72d1 3 := ⟨⟨k_memG 694 (by decide +kernel), k_memG 33 (by decide +kernel)⟩, by decide +kernel, by decide +kernel⟩
theorem sJ2_putChar_b72d1 : Cond.static MJ2_putChar_b72d1.1 ∈ k_tG := k_memG 693 (by decide +kernel)
theorem wJ2_getChar_3b067 : k_mw MJ2_getChar_3b067 2 := ⟨⟨k_memG 816 (by decide +kernel), k_memG 33 (by decide +kernel)⟩, by decide +kernel, by decide +kernel⟩
theorem sJ2_getChar_3b067 : Cond.static MJ2_getChar_3b067.1 ∈ k_tG := k_memG 815 (by decide +kernel)
theorem wJ2_length_9d52b : k_mw MJ2_length_9d52b 1 := ⟨⟨k_memG 683 (by decide +kernel), k_memG 33 (by decide +kernel)⟩, by decide +kernel, by decide +kernel⟩
theorem sJ2_length_9d52b : Cond.static MJ2_length_9d52b.1 ∈ k_tG := k_memG 682 (by decide +kernel)
theorem wJ2_coderFromArrayLen_85cad : k_mw MJ2_coderFromArrayLen_85cad 2 := ⟨⟨k_memG 820 (by decide +kernel), k_memG 33 (by decide +kernel)⟩, by decide +kernel, by decide +kernel⟩
theorem sJ2_coderFromArrayLen_85cad : Cond.static MJ2_coderFromArrayLen_85cad.1 ∈ k_tG := k_memG 819 (by decide +kernel)
theorem wJ2_compress_39247 : k_mw MJ2_compress_39247 3 := ⟨⟨k_memG 810 (by decide +kernel), k_memG 33 (by decide +kernel)⟩, by decide +kernel, by decide +kernel⟩
theorem sJ2_compress_39247 : Cond.static MJ2_compress_39247.1 ∈ k_tG := k_memG 809 (by decide +kernel)
theorem wJ2_compress_5af95 : k_mw MJ2_compress_5af95 5 := ⟨⟨k_memG 813 (by decide +kernel), k_memG 33 (by decide +kernel)⟩, by decide +kernel, by decide +kernel⟩
theorem sJ2_compress_5af95 : Cond.static MJ2_compress_5af95.1 ∈ k_tG := k_memG 812 (by decide +kernel)
theorem wJ2_getChars_46870 : k_mw MJ2_getChars_46870 4 := ⟨⟨k_memG 763 (by decide +kernel), k_memG 33 (by decide +kernel)⟩, by decide +kernel, by decide +kernel⟩
theorem sJ2_getChars_46870 : Cond.static MJ2_getChars_46870.1 ∈ k_tG := k_memG 762 (by decide +kernel)
theorem wJ2_putCharsAt_cd4e5 : k_mw MJ2_putCharsAt_cd4e5 6 := ⟨⟨k_memG 677 (by decide +kernel), k_memG 33 (by decide +kernel)⟩, by decide +kernel, by decide +kernel⟩
theorem sJ2_putCharsAt_cd4e5 : Cond.static MJ2_putCharsAt_cd4e5.1 ∈ k_tG := k_memG 676 (by decide +kernel)
theorem wJ2_charAt_3b067 : k_mw MJ2_charAt_3b067 2 := ⟨⟨k_memG 855 (by decide +kernel), k_memG 33 (by decide +kernel)⟩, by decide +kernel, by decide +kernel⟩
theorem sJ2_charAt_3b067 : Cond.static MJ2_charAt_3b067.1 ∈ k_tG := k_memG 854 (by decide +kernel)
theorem wJ2_inflate_0e8fd : k_mw MJ2_inflate_0e8fd 5 := ⟨⟨k_memG 728 (by decide +kernel), k_memG 33 (by decide +kernel)⟩, by decide +kernel, by decide +kernel⟩
theorem sJ2_inflate_0e8fd : Cond.static MJ2_inflate_0e8fd.1 ∈ k_tG := k_memG 727 (by decide +kernel)
theorem wJ2_getChars_ba4f3 : k_mw MJ2_getChars_ba4f3 3 := ⟨⟨k_memG 766 (by decide +kernel), k_memG 33 (by decide +kernel)⟩, by decide +kernel, by decide +kernel⟩
theorem sJ2_getChars_ba4f3 : Cond.static MJ2_getChars_ba4f3.1 ∈ k_tG := k_memG 765 (by decide +kernel)
theorem wJ2_checkIndex_2214a : k_mw MJ2_checkIndex_2214a 2 := ⟨⟨k_memG 858 (by decide +kernel), k_memG 33 (by decide +kernel)⟩, by decide +kernel, by decide +kernel⟩
theorem sJ2_checkIndex_2214a : Cond.static MJ2_checkIndex_2214a.1 ∈ k_tG := k_memG 857 (by decide +kernel)
theorem wJ2_checkBoundsBeginEnd_d044e : k_mw MJ2_checkBoundsBeginEnd_d044e 3 := ⟨⟨k_memG 680 (by decide +kernel), k_memG 33 (by decide +kernel)⟩, by decide +kernel, by decide +kernel⟩
theorem sJ2_checkBoundsBeginEnd_d044e : Cond.static MJ2_checkBoundsBeginEnd_d044e.1 ∈ k_tG := k_memG 679 (by decide +kernel)
theorem wJ2_checkBoundsOffCount_d044e : k_mw MJ2_checkBoundsOffCount_d044e 3 := ⟨⟨k_memG 731 (by decide +kernel), k_memG 33 (by decide +kernel)⟩, by decide +kernel, by decide +kernel⟩
theorem sJ2_checkBoundsOffCount_d044e : Cond.static MJ2_checkBoundsOffCount_d044e.1 ∈ k_tG := k_memG 730 (by decide +kernel)
theorem wJ7_copyOf_9075b : k_mw MJ7_copyOf_9075b 2 := ⟨⟨k_memG 656 (by decide +kernel), k_memG 36 (by decide +kernel)⟩, by decide +kernel, by decide +kernel⟩
theorem sJ7_copyOf_9075b : Cond.static MJ7_copyOf_9075b.1 ∈ k_tG := k_memG 655 (by decide +kernel)
theorem wJ7_checkLength_df160 : k_mw MJ7_checkLength_df160 2 := ⟨⟨k_memG 807 (by decide +kernel), k_memG 36 (by decide +kernel)⟩, by decide +kernel, by decide +kernel⟩
theorem sJ7_checkLength_df160 : Cond.static MJ7_checkLength_df160.1 ∈ k_tG := k_memG 806 (by decide +kernel)
theorem wJ7_copyOfRange_39247 : k_mw MJ7_copyOfRange_39247 3 := ⟨⟨k_memG 801 (by decide +kernel), k_memG 36 (by decide +kernel)⟩, by decide +kernel, by decide +kernel⟩
theorem sJ7_copyOfRange_39247 : Cond.static MJ7_copyOfRange_39247.1 ∈ k_tG := k_memG 800 (by decide +kernel)
theorem wJ7_copyOfRangeByte_39247 : k_mw MJ7_copyOfRangeByte_39247 3 := ⟨⟨k_memG 804 (by decide +kernel), k_memG 36 (by decide +kernel)⟩, by decide +kernel, by decide +kernel⟩
theorem sJ7_copyOfRangeByte_39247 : Cond.static MJ7_copyOfRangeByte_39247.1 ∈ k_tG := k_memG 803 (by decide +kernel)
theorem wJ8_newLength_cabcc : k_mw MJ8_newLength_cabcc 3 := ⟨⟨k_memG 645 (by decide +kernel), k_memG 34 (by decide +kernel)⟩, by decide +kernel, by decide +kernel⟩
theorem sJ8_newLength_cabcc : Cond.static MJ8_newLength_cabcc.1 ∈ k_tG := k_memG 644 (by decide +kernel)
theorem wJ8_hugeLength_7cf53 : k_mw MJ8_hugeLength_7cf53 2 := ⟨⟨k_memG 652 (by decide +kernel), k_memG 34 (by decide +kernel)⟩, by decide +kernel, by decide +kernel⟩
theorem sJ8_hugeLength_7cf53 : Cond.static MJ8_hugeLength_7cf53.1 ∈ k_tG := k_memG 651 (by decide +kernel)
theorem wJ3_checkIndex_8e157 : k_mw MJ3_checkIndex_8e157 3 := ⟨⟨k_memG 852 (by decide +kernel), k_memG 38 (by decide +kernel)⟩, by decide +kernel, by decide +kernel⟩
theorem sJ3_checkIndex_8e157 : Cond.static MJ3_checkIndex_8e157.1 ∈ k_tG := k_memG 851 (by decide +kernel)
theorem wJ3_checkFromToIndex_8c36e : k_mw MJ3_checkFromToIndex_8c36e 4 := ⟨⟨k_memG 691 (by decide +kernel), k_memG 38 (by decide +kernel)⟩, by decide +kernel, by decide +kernel⟩
theorem sJ3_checkFromToIndex_8c36e : Cond.static MJ3_checkFromToIndex_8c36e.1 ∈ k_tG := k_memG 690 (by decide +kernel)
theorem wJ3_checkFromIndexSize_8c36e : k_mw MJ3_checkFromIndexSize_8c36e 4 := ⟨⟨k_memG 737 (by decide +kernel), k_memG 38 (by decide +kernel)⟩, by decide +kernel, by decide +kernel⟩
theorem sJ3_checkFromIndexSize_8c36e : Cond.static MJ3_checkFromIndexSize_8c36e.1 ∈ k_tG := k_memG 736 (by decide +kernel)
theorem wL_at : k_mw ML_at 2 := ⟨⟨k_memG 208 (by decide +kernel), k_memG 17 (by decide +kernel)⟩, by decide +kernel, by decide +kernel⟩
theorem sL_at : Cond.static ML_at.1 ∈ k_tG := k_memG 207 (by decide +kernel)
theorem wL_text : k_mw ML_text 2 := ⟨⟨k_memG 834 (by decide +kernel), k_memG 17 (by decide +kernel)⟩, by decide +kernel, by decide +kernel⟩
theorem sL_text : Cond.static ML_text.1 ∈ k_tG := k_memG 833 (by decide +kernel)
theorem wL_build : k_mw ML_build 1 := ⟨⟨k_memG 211 (by decide +kernel), k_memG 17 (by decide +kernel)⟩, by decide +kernel, by decide +kernel⟩
theorem sL_build : Cond.static ML_build.1 ∈ k_tG := k_memG 210 (by decide +kernel)
theorem wL_tires : k_mw ML_tires 2 := ⟨⟨k_memG 545 (by decide +kernel), k_memG 17 (by decide +kernel)⟩, by decide +kernel, by decide +kernel⟩
theorem sL_tires : Cond.static ML_tires.1 ∈ k_tG := k_memG 544 (by decide +kernel)
theorem wL_strong : k_mw ML_strong 2 := ⟨⟨k_memG 548 (by decide +kernel), k_memG 17 (by decide +kernel)⟩, by decide +kernel, by decide +kernel⟩
theorem sL_strong : Cond.static ML_strong.1 ∈ k_tG := k_memG 547 (by decide +kernel)
theorem wL_hours : k_mw ML_hours 2 := ⟨⟨k_memG 551 (by decide +kernel), k_memG 17 (by decide +kernel)⟩, by decide +kernel, by decide +kernel⟩
theorem sL_hours : Cond.static ML_hours.1 ∈ k_tG := k_memG 550 (by decide +kernel)
theorem wL_fast : k_mw ML_fast 2 := ⟨⟨k_memG 554 (by decide +kernel), k_memG 17 (by decide +kernel)⟩, by decide +kernel, by decide +kernel⟩
theorem sL_fast : Cond.static ML_fast.1 ∈ k_tG := k_memG 553 (by decide +kernel)
theorem wL_slow : k_mw ML_slow 2 := ⟨⟨k_memG 557 (by decide +kernel), k_memG 17 (by decide +kernel)⟩, by decide +kernel, by decide +kernel⟩
theorem sL_slow : Cond.static ML_slow.1 ∈ k_tG := k_memG 556 (by decide +kernel)
theorem wL_gift : k_mw ML_gift 2 := ⟨⟨k_memG 560 (by decide +kernel), k_memG 17 (by decide +kernel)⟩, by decide +kernel, by decide +kernel⟩
theorem sL_gift : Cond.static ML_gift.1 ∈ k_tG := k_memG 559 (by decide +kernel)
theorem wL_plan : k_mw ML_plan 2 := ⟨⟨k_memG 563 (by decide +kernel), k_memG 17 (by decide +kernel)⟩, by decide +kernel, by decide +kernel⟩
theorem sL_plan : Cond.static ML_plan.1 ∈ k_tG := k_memG 562 (by decide +kernel)
theorem wL_counting : k_mw ML_counting 1 := ⟨⟨k_memG 566 (by decide +kernel), k_memG 17 (by decide +kernel)⟩, by decide +kernel, by decide +kernel⟩
theorem sL_counting : Cond.static ML_counting.1 ∈ k_tG := k_memG 565 (by decide +kernel)
theorem wL_day : k_mw ML_day 2 := ⟨⟨k_memG 569 (by decide +kernel), k_memG 17 (by decide +kernel)⟩, by decide +kernel, by decide +kernel⟩
theorem sL_day : Cond.static ML_day.1 ∈ k_tG := k_memG 568 (by decide +kernel)
theorem wL_weight : k_mw ML_weight 2 := ⟨⟨k_memG 572 (by decide +kernel), k_memG 17 (by decide +kernel)⟩, by decide +kernel, by decide +kernel⟩
theorem sL_weight : Cond.static ML_weight.1 ∈ k_tG := k_memG 571 (by decide +kernel)
theorem wL_lost : k_mw ML_lost 1 := ⟨⟨k_memG 932 (by decide +kernel), k_memG 17 (by decide +kernel)⟩, by decide +kernel, by decide +kernel⟩
theorem sL_lost : Cond.static ML_lost.1 ∈ k_tG := k_memG 931 (by decide +kernel)
theorem wL_left : k_mw ML_left 2 := ⟨⟨k_memG 939 (by decide +kernel), k_memG 17 (by decide +kernel)⟩, by decide +kernel, by decide +kernel⟩
theorem sL_left : Cond.static ML_left.1 ∈ k_tG := k_memG 938 (by decide +kernel)
theorem wL_points : k_mw ML_points 4 := ⟨⟨k_memG 942 (by decide +kernel), k_memG 17 (by decide +kernel)⟩, by decide +kernel, by decide +kernel⟩
theorem sL_points : Cond.static ML_points.1 ∈ k_tG := k_memG 941 (by decide +kernel)
theorem mL_36 : Cond.methodLink RL 36 yX11_work ∈ k_tG := k_memG 41 (by decide +kernel)
theorem kX11_105 : Cond.constant RX11 105 (99999) ∈ k_tG := k_memG 45 (by decide +kernel)
theorem mX11_106 : Cond.methodLink RX11 106 yX10_add ∈ k_tG := k_memG 46 (by decide +kernel)
theorem mX10_25 : Cond.methodLinkNest RX10 25 yX11_write "FitOnDay" ∈ k_tN := by decide +kernel
theorem mL_151 : Cond.methodLink RL 151 yX11_mend ∈ k_tG := k_memG 53 (by decide +kernel)
theorem mX11_110 : Cond.methodLink RX11 110 yX10_has ∈ k_tG := k_memG 57 (by decide +kernel)
theorem mX11_114 : Cond.methodLink RX11 114 yX11_within ∈ k_tG := k_memG 61 (by decide +kernel)
theorem mX11_118 : Cond.methodLink RX11 118 yX1_tell ∈ k_tG := k_memG 64 (by decide +kernel)
theorem mX1_39 : Cond.methodLink RX1 39 yX1_now ∈ k_tG := k_memG 68 (by decide +kernel)
theorem mX1_58 : Cond.methodLink RX1 58 yX2_at ∈ k_tG := k_memG 73 (by decide +kernel)
theorem mX2_15 : Cond.methodLinkNest RX2 15 yX11_read "FitOnDay" ∈ k_tN := by decide +kernel
theorem mX1_54 : Cond.methodLinkNest RX1 54 yX11_read "FitOnDay" ∈ k_tN := by decide +kernel
theorem mX1_43 : Cond.methodLink RX1 43 yX1_dropOldest ∈ k_tG := k_memG 81 (by decide +kernel)
theorem mX1_46 : Cond.methodLinkNest RX1 46 yX11_write "FitOnDay" ∈ k_tN := by decide +kernel
theorem mX1_50 : Cond.methodLink RX1 50 yX1_become ∈ k_tG := k_memG 86 (by decide +kernel)
theorem mX1_72 : Cond.methodLink RX1 72 yX2_set ∈ k_tG := k_memG 90 (by decide +kernel)
theorem mX2_19 : Cond.methodLinkNest RX2 19 yX11_write "FitOnDay" ∈ k_tN := by decide +kernel
theorem mL_49 : Cond.methodLink RL 49 yX11_runner ∈ k_tG := k_memG 95 (by decide +kernel)
theorem mX11_121 : Cond.methodLink RX11 121 yX8_add ∈ k_tG := k_memG 99 (by decide +kernel)
theorem mX8_25 : Cond.methodLinkNest RX8 25 yX11_write "FitOnDay" ∈ k_tN := by decide +kernel
theorem mX8_29 : Cond.methodLink RX8 29 yX8_fillLeft ∈ k_tG := k_memG 104 (by decide +kernel)
theorem mL_55 : Cond.methodLink RL 55 yX11_plan ∈ k_tG := k_memG 109 (by decide +kernel)
theorem mX11_122 : Cond.methodLink RX11 122 yX11_isDay ∈ k_tG := k_memG 113 (by decide +kernel)
theorem mL_131 : Cond.methodLink RL 131 yX11_of ∈ k_tG := k_memG 116 (by decide +kernel)
theorem mX11_161 : Cond.methodLink RX11 161 yX2_at ∈ k_tG := k_memG 120 (by decide +kernel)
theorem mL_125 : Cond.methodLink RL 125 yX11_fit ∈ k_tG := k_memG 121 (by decide +kernel)
theorem mX11_165 : Cond.methodLink RX11 165 yX11_isRunnersDay ∈ k_tG := k_memG 125 (by decide +kernel)
theorem mX11_175 : Cond.methodLink RX11 175 yX8_has ∈ k_tG := k_memG 130 (by decide +kernel)
theorem kX11_168 : Cond.constant RX11 168 (-2000000000) ∈ k_tG := k_memG 134 (by decide +kernel)
theorem mX11_169 : Cond.methodLink RX11 169 yX3_strongBy ∈ k_tG := k_memG 135 (by decide +kernel)
theorem mX3_67 : Cond.methodLink RX3 67 yX2_at ∈ k_tG := k_memG 139 (by decide +kernel)
theorem mX3_37 : Cond.methodLink RX3 37 yX3_strengthOf ∈ k_tG := k_memG 140 (by decide +kernel)
theorem mX3_49 : Cond.methodLinkNest RX3 49 yX11_read "FitOnDay" ∈ k_tN := by decide +kernel
theorem mX11_172 : Cond.methodLink RX11 172 yX3_tiredBy ∈ k_tG := k_memG 146 (by decide +kernel)
theorem mX3_41 : Cond.methodLink RX3 41 yX3_tirednessOf ∈ k_tG := k_memG 150 (by decide +kernel)
theorem mL_122 : Cond.methodLink RL 122 yX11_points ∈ k_tG := k_memG 154 (by decide +kernel)
theorem mX11_176 : Cond.methodLink RX11 176 yX3_brought ∈ k_tG := k_memG 158 (by decide +kernel)
theorem mL_128 : Cond.methodLink RL 128 yX11_led ∈ k_tG := k_memG 162 (by decide +kernel)
theorem mX11_202 : Cond.methodLink RX11 202 yX3_leadingDay ∈ k_tG := k_memG 166 (by decide +kernel)
theorem mX3_91 : Cond.methodLink RX3 91 yX3_brought ∈ k_tG := k_memG 170 (by decide +kernel)
theorem mL_134 : Cond.methodLink RL 134 yX11_alike ∈ k_tG := k_memG 171 (by decide +kernel)
theorem mX11_268 : Cond.methodLink RX11 268 yX3_fitOn ∈ k_tG := k_memG 175 (by decide +kernel)
theorem mX3_73 : Cond.methodLink RX3 73 yX3_strongBy ∈ k_tG := k_memG 179 (by decide +kernel)
theorem mX3_76 : Cond.methodLink RX3 76 yX3_tiredBy ∈ k_tG := k_memG 180 (by decide +kernel)
theorem mL_143 : Cond.methodLink RL 143 yX11_undo ∈ k_tG := k_memG 181 (by decide +kernel)
theorem mX11_275 : Cond.methodLink RX11 275 yX1_stepBack ∈ k_tG := k_memG 185 (by decide +kernel)
theorem mL_146 : Cond.methodLink RL 146 yX11_redo ∈ k_tG := k_memG 189 (by decide +kernel)
theorem mX11_278 : Cond.methodLink RX11 278 yX1_stepAhead ∈ k_tG := k_memG 193 (by decide +kernel)
theorem mL_137 : Cond.methodLink RL 137 yX11_count ∈ k_tG := k_memG 197 (by decide +kernel)
theorem mX11_158 : Cond.methodLink RX11 158 yX2_working ∈ k_tG := k_memG 201 (by decide +kernel)
theorem mX2_27 : Cond.methodLink RX2 27 yX2_at ∈ k_tG := k_memG 205 (by decide +kernel)
theorem mL_70 : Cond.methodLink RL 70 yL_at ∈ k_tG := k_memG 206 (by decide +kernel)
theorem mL_118 : Cond.methodLink RL 118 yL_build ∈ k_tG := k_memG 209 (by decide +kernel)
theorem cL_18 : Cond.classLink RL 18 RX11 ∈ k_tG ∧ Cond.instantiable RX11 16 ∈ k_tG ∧ Cond.initialized RX11 ∈ k_tG := ⟨k_memG 212 (by decide +kernel), k_memG 128 (by decide +kernel), k_memG 18 (by decide +kernel)⟩
theorem mL_23 : Cond.methodLink RL 23 yX11_init ∈ k_tG := k_memG 213 (by decide +kernel)
theorem mX11_1 : Cond.methodLink RX11 1 Lib.objectInit ∈ k_tG := k_memG 216 (by decide +kernel)
theorem cX11_7 : Cond.classLink RX11 7 RX6 ∈ k_tG ∧ Cond.instantiable RX6 8 ∈ k_tG ∧ Cond.initialized RX6 ∈ k_tG := ⟨k_memG 219 (by decide +kernel), k_memG 220 (by decide +kernel), k_memG 19 (by decide +kernel)⟩
theorem mX11_9 : Cond.methodLinkNest RX11 9 yX6_init "FitOnDay" ∈ k_tN := by decide +kernel
theorem mX6_3 : Cond.methodLink RX6 3 Lib.objectInit ∈ k_tG := k_memG 224 (by decide +kernel)
theorem fX6_9 : 0 < 8 ∧ Cond.fieldLink RX6 9 (TX6 0).1 (TX6 0).2.1 (TX6 0).2.2.1 ∈ k_tG := ⟨by decide, k_memG 225 (by decide +kernel)⟩
theorem fX9_25 : 0 < 8 ∧ Cond.fieldLinkNest RX9 25 (TX6 0).1 (TX6 0).2.1 (TX6 0).2.2.1 "FitOnDay" ∈ k_tN := by decide +kernel
theorem fX6_18 : 1 < 8 ∧ Cond.fieldLink RX6 18 (TX6 1).1 (TX6 1).2.1 (TX6 1).2.2.1 ∈ k_tG := ⟨by decide, k_memG 227 (by decide +kernel)⟩
theorem fX9_22 : 1 < 8 ∧ Cond.fieldLinkNest RX9 22 (TX6 1).1 (TX6 1).2.1 (TX6 1).2.2.1 "FitOnDay" ∈ k_tN := by decide +kernel
theorem fX6_15 : 2 < 8 ∧ Cond.fieldLink RX6 15 (TX6 2).1 (TX6 2).2.1 (TX6 2).2.2.1 ∈ k_tG := ⟨by decide, k_memG 229 (by decide +kernel)⟩
theorem fX6_22 : 3 < 8 ∧ Cond.fieldLink RX6 22 (TX6 3).1 (TX6 3).2.1 (TX6 3).2.2.1 ∈ k_tG := ⟨by decide, k_memG 230 (by decide +kernel)⟩
theorem fX6_25 : 4 < 8 ∧ Cond.fieldLink RX6 25 (TX6 4).1 (TX6 4).2.1 (TX6 4).2.2.1 ∈ k_tG := ⟨by decide, k_memG 231 (by decide +kernel)⟩
theorem fX6_28 : 5 < 8 ∧ Cond.fieldLink RX6 28 (TX6 5).1 (TX6 5).2.1 (TX6 5).2.2.1 ∈ k_tG := ⟨by decide, k_memG 232 (by decide +kernel)⟩
theorem fX6_31 : 6 < 8 ∧ Cond.fieldLink RX6 31 (TX6 6).1 (TX6 6).2.1 (TX6 6).2.2.1 ∈ k_tG := ⟨by decide, k_memG 233 (by decide +kernel)⟩
theorem fX6_35 : 7 < 8 ∧ Cond.fieldLink RX6 35 (TX6 7).1 (TX6 7).2.1 (TX6 7).2.2.1 ∈ k_tG := ⟨by decide, k_memG 234 (by decide +kernel)⟩
theorem cX11_16 : Cond.classLink RX11 16 RX0 ∈ k_tG ∧ Cond.instantiable RX0 6 ∈ k_tG ∧ Cond.initialized RX0 ∈ k_tG := ⟨k_memG 253 (by decide +kernel), k_memG 254 (by decide +kernel), k_memG 20 (by decide +kernel)⟩
theorem mX11_18 : Cond.methodLinkNest RX11 18 yX0_init "FitOnDay" ∈ k_tN := by decide +kernel
theorem mX0_3 : Cond.methodLink RX0 3 Lib.objectInit ∈ k_tG := k_memG 258 (by decide +kernel)
theorem fX0_11 : 0 < 6 ∧ Cond.fieldLink RX0 11 (TX0 0).1 (TX0 0).2.1 (TX0 0).2.2.1 ∈ k_tG := ⟨by decide, k_memG 259 (by decide +kernel)⟩
theorem fX0_15 : 1 < 6 ∧ Cond.fieldLink RX0 15 (TX0 1).1 (TX0 1).2.1 (TX0 1).2.2.1 ∈ k_tG := ⟨by decide, k_memG 260 (by decide +kernel)⟩
theorem fX11_330 : 1 < 6 ∧ Cond.fieldLink RX11 330 (TX0 1).1 (TX0 1).2.1 (TX0 1).2.2.1 ∈ k_tG := ⟨by decide, k_memG 261 (by decide +kernel)⟩
theorem fX0_19 : 2 < 6 ∧ Cond.fieldLink RX0 19 (TX0 2).1 (TX0 2).2.1 (TX0 2).2.2.1 ∈ k_tG := ⟨by decide, k_memG 262 (by decide +kernel)⟩
theorem fX0_22 : 3 < 6 ∧ Cond.fieldLink RX0 22 (TX0 3).1 (TX0 3).2.1 (TX0 3).2.2.1 ∈ k_tG := ⟨by decide, k_memG 263 (by decide +kernel)⟩
theorem fX11_331 : 3 < 6 ∧ Cond.fieldLink RX11 331 (TX0 3).1 (TX0 3).2.1 (TX0 3).2.2.1 ∈ k_tG := ⟨by decide, k_memG 264 (by decide +kernel)⟩
theorem cX11_23 : Cond.classLink RX11 23 RX7 ∈ k_tG ∧ Cond.instantiable RX7 4 ∈ k_tG ∧ Cond.initialized RX7 ∈ k_tG := ⟨k_memG 278 (by decide +kernel), k_memG 279 (by decide +kernel), k_memG 21 (by decide +kernel)⟩
theorem mX11_25 : Cond.methodLink RX11 25 yX7_init ∈ k_tG := k_memG 280 (by decide +kernel)
theorem mX7_3 : Cond.methodLink RX7 3 Lib.objectInit ∈ k_tG := k_memG 283 (by decide +kernel)
theorem fX7_11 : 0 < 4 ∧ Cond.fieldLink RX7 11 (TX7 0).1 (TX7 0).2.1 (TX7 0).2.2.1 ∈ k_tG := ⟨by decide, k_memG 284 (by decide +kernel)⟩
theorem fX7_15 : 1 < 4 ∧ Cond.fieldLink RX7 15 (TX7 1).1 (TX7 1).2.1 (TX7 1).2.2.1 ∈ k_tG := ⟨by decide, k_memG 285 (by decide +kernel)⟩
theorem fX7_18 : 2 < 4 ∧ Cond.fieldLink RX7 18 (TX7 2).1 (TX7 2).2.1 (TX7 2).2.2.1 ∈ k_tG := ⟨by decide, k_memG 286 (by decide +kernel)⟩
theorem fX7_22 : 3 < 4 ∧ Cond.fieldLink RX7 22 (TX7 3).1 (TX7 3).2.1 (TX7 3).2.2.1 ∈ k_tG := ⟨by decide, k_memG 287 (by decide +kernel)⟩
theorem cX11_50 : Cond.classLink RX11 50 RX10 ∈ k_tG ∧ Cond.instantiable RX10 4 ∈ k_tG ∧ Cond.initialized RX10 ∈ k_tG := ⟨k_memG 298 (by decide +kernel), k_memG 299 (by decide +kernel), k_memG 22 (by decide +kernel)⟩
theorem mX11_52 : Cond.methodLinkNest RX11 52 yX10_init "FitOnDay" ∈ k_tN := by decide +kernel
theorem mX10_3 : Cond.methodLink RX10 3 Lib.objectInit ∈ k_tG := k_memG 303 (by decide +kernel)
theorem fX10_9 : 0 < 4 ∧ Cond.fieldLink RX10 9 (TX10 0).1 (TX10 0).2.1 (TX10 0).2.2.1 ∈ k_tG := ⟨by decide, k_memG 304 (by decide +kernel)⟩
theorem fX3_61 : 0 < 4 ∧ Cond.fieldLink RX3 61 (TX10 0).1 (TX10 0).2.1 (TX10 0).2.2.1 ∈ k_tG := ⟨by decide, k_memG 305 (by decide +kernel)⟩
theorem fX1_64 : 0 < 4 ∧ Cond.fieldLink RX1 64 (TX10 0).1 (TX10 0).2.1 (TX10 0).2.2.1 ∈ k_tG := ⟨by decide, k_memG 306 (by decide +kernel)⟩
theorem fX10_15 : 1 < 4 ∧ Cond.fieldLink RX10 15 (TX10 1).1 (TX10 1).2.1 (TX10 1).2.2.1 ∈ k_tG := ⟨by decide, k_memG 307 (by decide +kernel)⟩
theorem fX3_44 : 1 < 4 ∧ Cond.fieldLink RX3 44 (TX10 1).1 (TX10 1).2.1 (TX10 1).2.2.1 ∈ k_tG := ⟨by decide, k_memG 308 (by decide +kernel)⟩
theorem fX1_69 : 1 < 4 ∧ Cond.fieldLink RX1 69 (TX10 1).1 (TX10 1).2.1 (TX10 1).2.2.1 ∈ k_tG := ⟨by decide, k_memG 309 (by decide +kernel)⟩
theorem fX10_18 : 2 < 4 ∧ Cond.fieldLink RX10 18 (TX10 2).1 (TX10 2).2.1 (TX10 2).2.2.1 ∈ k_tG := ⟨by decide, k_memG 310 (by decide +kernel)⟩
theorem fX10_21 : 3 < 4 ∧ Cond.fieldLink RX10 21 (TX10 3).1 (TX10 3).2.1 (TX10 3).2.2.1 ∈ k_tG := ⟨by decide, k_memG 311 (by decide +kernel)⟩
theorem fX11_325 : 3 < 4 ∧ Cond.fieldLink RX11 325 (TX10 3).1 (TX10 3).2.1 (TX10 3).2.2.1 ∈ k_tG := ⟨by decide, k_memG 312 (by decide +kernel)⟩
theorem cX11_53 : Cond.classLink RX11 53 RX8 ∈ k_tG ∧ Cond.instantiable RX8 4 ∈ k_tG ∧ Cond.initialized RX8 ∈ k_tG := ⟨k_memG 322 (by decide +kernel), k_memG 107 (by decide +kernel), k_memG 23 (by decide +kernel)⟩
theorem mX11_55 : Cond.methodLinkNest RX11 55 yX8_init "FitOnDay" ∈ k_tN := by decide +kernel
theorem mX8_3 : Cond.methodLink RX8 3 Lib.objectInit ∈ k_tG := k_memG 326 (by decide +kernel)
theorem fX8_9 : 0 < 4 ∧ Cond.fieldLink RX8 9 (TX8 0).1 (TX8 0).2.1 (TX8 0).2.2.1 ∈ k_tG := ⟨by decide, k_memG 327 (by decide +kernel)⟩
theorem fX3_53 : 0 < 4 ∧ Cond.fieldLink RX3 53 (TX8 0).1 (TX8 0).2.1 (TX8 0).2.2.1 ∈ k_tG := ⟨by decide, k_memG 328 (by decide +kernel)⟩
theorem fX8_15 : 1 < 4 ∧ Cond.fieldLink RX8 15 (TX8 1).1 (TX8 1).2.1 (TX8 1).2.2.1 ∈ k_tG := ⟨by decide, k_memG 329 (by decide +kernel)⟩
theorem fX3_64 : 1 < 4 ∧ Cond.fieldLink RX3 64 (TX8 1).1 (TX8 1).2.1 (TX8 1).2.2.1 ∈ k_tG := ⟨by decide, k_memG 330 (by decide +kernel)⟩
theorem fX8_18 : 2 < 4 ∧ Cond.fieldLink RX8 18 (TX8 2).1 (TX8 2).2.1 (TX8 2).2.2.1 ∈ k_tG := ⟨by decide, k_memG 331 (by decide +kernel)⟩
theorem fX3_58 : 2 < 4 ∧ Cond.fieldLink RX3 58 (TX8 2).1 (TX8 2).2.1 (TX8 2).2.2.1 ∈ k_tG := ⟨by decide, k_memG 332 (by decide +kernel)⟩
theorem fX8_21 : 3 < 4 ∧ Cond.fieldLink RX8 21 (TX8 3).1 (TX8 3).2.1 (TX8 3).2.2.1 ∈ k_tG := ⟨by decide, k_memG 333 (by decide +kernel)⟩
theorem fX11_259 : 3 < 4 ∧ Cond.fieldLink RX11 259 (TX8 3).1 (TX8 3).2.1 (TX8 3).2.2.1 ∈ k_tG := ⟨by decide, k_memG 334 (by decide +kernel)⟩
theorem cX11_56 : Cond.classLink RX11 56 RX2 ∈ k_tG ∧ Cond.instantiable RX2 1 ∈ k_tG ∧ Cond.initialized RX2 ∈ k_tG := ⟨k_memG 344 (by decide +kernel), k_memG 345 (by decide +kernel), k_memG 24 (by decide +kernel)⟩
theorem mX11_58 : Cond.methodLinkNest RX11 58 yX2_init "FitOnDay" ∈ k_tN := by decide +kernel
theorem mX2_3 : Cond.methodLink RX2 3 Lib.objectInit ∈ k_tG := k_memG 349 (by decide +kernel)
theorem fX2_9 : 0 < 1 ∧ Cond.fieldLink RX2 9 (TX2 0).1 (TX2 0).2.1 (TX2 0).2.2.1 ∈ k_tG := ⟨by decide, k_memG 350 (by decide +kernel)⟩
theorem cX11_59 : Cond.classLink RX11 59 RX5 ∈ k_tG ∧ Cond.instantiable RX5 3 ∈ k_tG ∧ Cond.initialized RX5 ∈ k_tG := ⟨k_memG 354 (by decide +kernel), k_memG 355 (by decide +kernel), k_memG 25 (by decide +kernel)⟩
theorem mX11_61 : Cond.methodLinkNest RX11 61 yX5_init "FitOnDay" ∈ k_tN := by decide +kernel
theorem mX5_3 : Cond.methodLink RX5 3 Lib.objectInit ∈ k_tG := k_memG 359 (by decide +kernel)
theorem fX5_9 : 0 < 3 ∧ Cond.fieldLink RX5 9 (TX5 0).1 (TX5 0).2.1 (TX5 0).2.2.1 ∈ k_tG := ⟨by decide, k_memG 360 (by decide +kernel)⟩
theorem fX5_15 : 1 < 3 ∧ Cond.fieldLink RX5 15 (TX5 1).1 (TX5 1).2.1 (TX5 1).2.2.1 ∈ k_tG := ⟨by decide, k_memG 361 (by decide +kernel)⟩
theorem fX5_18 : 2 < 3 ∧ Cond.fieldLink RX5 18 (TX5 2).1 (TX5 2).2.1 (TX5 2).2.2.1 ∈ k_tG := ⟨by decide, k_memG 362 (by decide +kernel)⟩
theorem fX11_326 : 2 < 3 ∧ Cond.fieldLink RX11 326 (TX5 2).1 (TX5 2).2.1 (TX5 2).2.2.1 ∈ k_tG := ⟨by decide, k_memG 363 (by decide +kernel)⟩
theorem cX11_62 : Cond.classLink RX11 62 RX3 ∈ k_tG ∧ Cond.instantiable RX3 7 ∈ k_tG ∧ Cond.initialized RX3 ∈ k_tG := ⟨k_memG 371 (by decide +kernel), k_memG 143 (by decide +kernel), k_memG 26 (by decide +kernel)⟩
theorem mX11_64 : Cond.methodLink RX11 64 yX3_init ∈ k_tG := k_memG 372 (by decide +kernel)
theorem mX3_3 : Cond.methodLink RX3 3 Lib.objectInit ∈ k_tG := k_memG 375 (by decide +kernel)
theorem fX3_21 : 0 < 7 ∧ Cond.fieldLink RX3 21 (TX3 0).1 (TX3 0).2.1 (TX3 0).2.2.1 ∈ k_tG := ⟨by decide, k_memG 376 (by decide +kernel)⟩
theorem fX3_25 : 1 < 7 ∧ Cond.fieldLink RX3 25 (TX3 1).1 (TX3 1).2.1 (TX3 1).2.2.1 ∈ k_tG := ⟨by decide, k_memG 377 (by decide +kernel)⟩
theorem fX3_29 : 2 < 7 ∧ Cond.fieldLink RX3 29 (TX3 2).1 (TX3 2).2.1 (TX3 2).2.2.1 ∈ k_tG := ⟨by decide, k_memG 378 (by decide +kernel)⟩
theorem fX3_33 : 3 < 7 ∧ Cond.fieldLink RX3 33 (TX3 3).1 (TX3 3).2.1 (TX3 3).2.2.1 ∈ k_tG := ⟨by decide, k_memG 379 (by decide +kernel)⟩
theorem fX3_9 : 4 < 7 ∧ Cond.fieldLink RX3 9 (TX3 4).1 (TX3 4).2.1 (TX3 4).2.2.1 ∈ k_tG := ⟨by decide, k_memG 380 (by decide +kernel)⟩
theorem fX3_15 : 5 < 7 ∧ Cond.fieldLink RX3 15 (TX3 5).1 (TX3 5).2.1 (TX3 5).2.2.1 ∈ k_tG := ⟨by decide, k_memG 381 (by decide +kernel)⟩
theorem fX3_18 : 6 < 7 ∧ Cond.fieldLink RX3 18 (TX3 6).1 (TX3 6).2.1 (TX3 6).2.2.1 ∈ k_tG := ⟨by decide, k_memG 382 (by decide +kernel)⟩
theorem cX11_87 : Cond.classLink RX11 87 RX1 ∈ k_tG ∧ Cond.instantiable RX1 8 ∈ k_tG ∧ Cond.initialized RX1 ∈ k_tG := ⟨k_memG 398 (by decide +kernel), k_memG 71 (by decide +kernel), k_memG 27 (by decide +kernel)⟩
theorem mX11_89 : Cond.methodLink RX11 89 yX1_init ∈ k_tG := k_memG 399 (by decide +kernel)
theorem mX1_3 : Cond.methodLink RX1 3 Lib.objectInit ∈ k_tG := k_memG 402 (by decide +kernel)
theorem fX1_31 : 0 < 8 ∧ Cond.fieldLink RX1 31 (TX1 0).1 (TX1 0).2.1 (TX1 0).2.2.1 ∈ k_tG := ⟨by decide, k_memG 403 (by decide +kernel)⟩
theorem fX1_35 : 1 < 8 ∧ Cond.fieldLink RX1 35 (TX1 1).1 (TX1 1).2.1 (TX1 1).2.2.1 ∈ k_tG := ⟨by decide, k_memG 404 (by decide +kernel)⟩
theorem fX1_11 : 2 < 8 ∧ Cond.fieldLink RX1 11 (TX1 2).1 (TX1 2).2.1 (TX1 2).2.2.1 ∈ k_tG := ⟨by decide, k_memG 405 (by decide +kernel)⟩
theorem fX1_15 : 3 < 8 ∧ Cond.fieldLink RX1 15 (TX1 3).1 (TX1 3).2.1 (TX1 3).2.2.1 ∈ k_tG := ⟨by decide, k_memG 406 (by decide +kernel)⟩
theorem fX1_18 : 4 < 8 ∧ Cond.fieldLink RX1 18 (TX1 4).1 (TX1 4).2.1 (TX1 4).2.2.1 ∈ k_tG := ⟨by decide, k_memG 407 (by decide +kernel)⟩
theorem fX1_21 : 5 < 8 ∧ Cond.fieldLink RX1 21 (TX1 5).1 (TX1 5).2.1 (TX1 5).2.2.1 ∈ k_tG := ⟨by decide, k_memG 408 (by decide +kernel)⟩
theorem fX1_24 : 6 < 8 ∧ Cond.fieldLink RX1 24 (TX1 6).1 (TX1 6).2.1 (TX1 6).2.2.1 ∈ k_tG := ⟨by decide, k_memG 409 (by decide +kernel)⟩
theorem fX11_327 : 6 < 8 ∧ Cond.fieldLink RX11 327 (TX1 6).1 (TX1 6).2.1 (TX1 6).2.2.1 ∈ k_tG := ⟨by decide, k_memG 410 (by decide +kernel)⟩
theorem fX1_28 : 7 < 8 ∧ Cond.fieldLink RX1 28 (TX1 7).1 (TX1 7).2.1 (TX1 7).2.2.1 ∈ k_tG := ⟨by decide, k_memG 411 (by decide +kernel)⟩
theorem cX11_96 : Cond.classLink RX11 96 RX4 ∈ k_tG ∧ Cond.instantiable RX4 12 ∈ k_tG ∧ Cond.initialized RX4 ∈ k_tG := ⟨k_memG 429 (by decide +kernel), k_memG 430 (by decide +kernel), k_memG 28 (by decide +kernel)⟩
theorem mX11_98 : Cond.methodLink RX11 98 yX4_init ∈ k_tG := k_memG 431 (by decide +kernel)
theorem mX4_3 : Cond.methodLink RX4 3 Lib.objectInit ∈ k_tG := k_memG 434 (by decide +kernel)
theorem cX4_9 : Cond.classLink RX4 9 RX9 ∈ k_tG ∧ Cond.instantiable RX9 4 ∈ k_tG ∧ Cond.initialized RX9 ∈ k_tG := ⟨k_memG 435 (by decide +kernel), k_memG 436 (by decide +kernel), k_memG 29 (by decide +kernel)⟩
theorem mX4_11 : Cond.methodLinkNest RX4 11 yX9_init "FitOnDay" ∈ k_tN := by decide +kernel
theorem mX9_3 : Cond.methodLink RX9 3 Lib.objectInit ∈ k_tG := k_memG 440 (by decide +kernel)
theorem fX9_9 : 0 < 4 ∧ Cond.fieldLink RX9 9 (TX9 0).1 (TX9 0).2.1 (TX9 0).2.2.1 ∈ k_tG := ⟨by decide, k_memG 441 (by decide +kernel)⟩
theorem fX9_15 : 1 < 4 ∧ Cond.fieldLink RX9 15 (TX9 1).1 (TX9 1).2.1 (TX9 1).2.2.1 ∈ k_tG := ⟨by decide, k_memG 442 (by decide +kernel)⟩
theorem fX9_19 : 2 < 4 ∧ Cond.fieldLink RX9 19 (TX9 2).1 (TX9 2).2.1 (TX9 2).2.2.1 ∈ k_tG := ⟨by decide, k_memG 443 (by decide +kernel)⟩
theorem fX4_41 : 0 < 12 ∧ Cond.fieldLink RX4 41 (TX4 0).1 (TX4 0).2.1 (TX4 0).2.2.1 ∈ k_tG := ⟨by decide, k_memG 453 (by decide +kernel)⟩
theorem fX4_45 : 1 < 12 ∧ Cond.fieldLink RX4 45 (TX4 1).1 (TX4 1).2.1 (TX4 1).2.2.1 ∈ k_tG := ⟨by decide, k_memG 454 (by decide +kernel)⟩
theorem fX4_49 : 2 < 12 ∧ Cond.fieldLink RX4 49 (TX4 2).1 (TX4 2).2.1 (TX4 2).2.2.1 ∈ k_tG := ⟨by decide, k_memG 455 (by decide +kernel)⟩
theorem fX4_53 : 3 < 12 ∧ Cond.fieldLink RX4 53 (TX4 3).1 (TX4 3).2.1 (TX4 3).2.2.1 ∈ k_tG := ⟨by decide, k_memG 456 (by decide +kernel)⟩
theorem fX4_12 : 4 < 12 ∧ Cond.fieldLink RX4 12 (TX4 4).1 (TX4 4).2.1 (TX4 4).2.2.1 ∈ k_tG := ⟨by decide, k_memG 457 (by decide +kernel)⟩
theorem fX11_219 : 4 < 12 ∧ Cond.fieldLink RX11 219 (TX4 4).1 (TX4 4).2.1 (TX4 4).2.2.1 ∈ k_tG := ⟨by decide, k_memG 458 (by decide +kernel)⟩
theorem fX4_18 : 5 < 12 ∧ Cond.fieldLink RX4 18 (TX4 5).1 (TX4 5).2.1 (TX4 5).2.2.1 ∈ k_tG := ⟨by decide, k_memG 459 (by decide +kernel)⟩
theorem fX11_229 : 5 < 12 ∧ Cond.fieldLink RX11 229 (TX4 5).1 (TX4 5).2.1 (TX4 5).2.2.1 ∈ k_tG := ⟨by decide, k_memG 460 (by decide +kernel)⟩
theorem fX4_21 : 6 < 12 ∧ Cond.fieldLink RX4 21 (TX4 6).1 (TX4 6).2.1 (TX4 6).2.2.1 ∈ k_tG := ⟨by decide, k_memG 461 (by decide +kernel)⟩
theorem fX11_232 : 6 < 12 ∧ Cond.fieldLink RX11 232 (TX4 6).1 (TX4 6).2.1 (TX4 6).2.2.1 ∈ k_tG := ⟨by decide, k_memG 462 (by decide +kernel)⟩
theorem fX4_24 : 7 < 12 ∧ Cond.fieldLink RX4 24 (TX4 7).1 (TX4 7).2.1 (TX4 7).2.2.1 ∈ k_tG := ⟨by decide, k_memG 463 (by decide +kernel)⟩
theorem fX11_247 : 7 < 12 ∧ Cond.fieldLink RX11 247 (TX4 7).1 (TX4 7).2.1 (TX4 7).2.2.1 ∈ k_tG := ⟨by decide, k_memG 464 (by decide +kernel)⟩
theorem fX4_28 : 8 < 12 ∧ Cond.fieldLink RX4 28 (TX4 8).1 (TX4 8).2.1 (TX4 8).2.2.1 ∈ k_tG := ⟨by decide, k_memG 465 (by decide +kernel)⟩
theorem fX4_32 : 9 < 12 ∧ Cond.fieldLink RX4 32 (TX4 9).1 (TX4 9).2.1 (TX4 9).2.2.1 ∈ k_tG := ⟨by decide, k_memG 466 (by decide +kernel)⟩
theorem fX4_35 : 10 < 12 ∧ Cond.fieldLink RX4 35 (TX4 10).1 (TX4 10).2.1 (TX4 10).2.2.1 ∈ k_tG := ⟨by decide, k_memG 467 (by decide +kernel)⟩
theorem fX4_38 : 11 < 12 ∧ Cond.fieldLink RX4 38 (TX4 11).1 (TX4 11).2.1 (TX4 11).2.2.1 ∈ k_tG := ⟨by decide, k_memG 468 (by decide +kernel)⟩
theorem fX11_67 : 0 < 16 ∧ Cond.fieldLink RX11 67 (TX11 0).1 (TX11 0).2.1 (TX11 0).2.2.1 ∈ k_tG := ⟨by decide, k_memG 494 (by decide +kernel)⟩
theorem fX11_71 : 1 < 16 ∧ Cond.fieldLink RX11 71 (TX11 1).1 (TX11 1).2.1 (TX11 1).2.2.1 ∈ k_tG := ⟨by decide, k_memG 495 (by decide +kernel)⟩
theorem fX11_75 : 2 < 16 ∧ Cond.fieldLink RX11 75 (TX11 2).1 (TX11 2).2.1 (TX11 2).2.2.1 ∈ k_tG := ⟨by decide, k_memG 496 (by decide +kernel)⟩
theorem fX11_79 : 3 < 16 ∧ Cond.fieldLink RX11 79 (TX11 3).1 (TX11 3).2.1 (TX11 3).2.2.1 ∈ k_tG := ⟨by decide, k_memG 497 (by decide +kernel)⟩
theorem fX11_92 : 4 < 16 ∧ Cond.fieldLink RX11 92 (TX11 4).1 (TX11 4).2.1 (TX11 4).2.2.1 ∈ k_tG := ⟨by decide, k_memG 498 (by decide +kernel)⟩
theorem fX11_83 : 5 < 16 ∧ Cond.fieldLink RX11 83 (TX11 5).1 (TX11 5).2.1 (TX11 5).2.2.1 ∈ k_tG := ⟨by decide, k_memG 499 (by decide +kernel)⟩
theorem fX11_101 : 6 < 16 ∧ Cond.fieldLink RX11 101 (TX11 6).1 (TX11 6).2.1 (TX11 6).2.2.1 ∈ k_tG := ⟨by decide, k_memG 500 (by decide +kernel)⟩
theorem fX11_10 : 7 < 16 ∧ Cond.fieldLink RX11 10 (TX11 7).1 (TX11 7).2.1 (TX11 7).2.2.1 ∈ k_tG := ⟨by decide, k_memG 501 (by decide +kernel)⟩
theorem fX11_19 : 8 < 16 ∧ Cond.fieldLink RX11 19 (TX11 8).1 (TX11 8).2.1 (TX11 8).2.2.1 ∈ k_tG := ⟨by decide, k_memG 502 (by decide +kernel)⟩
theorem fX11_26 : 9 < 16 ∧ Cond.fieldLink RX11 26 (TX11 9).1 (TX11 9).2.1 (TX11 9).2.2.1 ∈ k_tG := ⟨by decide, k_memG 503 (by decide +kernel)⟩
theorem fX11_30 : 10 < 16 ∧ Cond.fieldLink RX11 30 (TX11 10).1 (TX11 10).2.1 (TX11 10).2.2.1 ∈ k_tG := ⟨by decide, k_memG 504 (by decide +kernel)⟩
theorem fX11_34 : 11 < 16 ∧ Cond.fieldLink RX11 34 (TX11 11).1 (TX11 11).2.1 (TX11 11).2.2.1 ∈ k_tG := ⟨by decide, k_memG 505 (by decide +kernel)⟩
theorem fX11_38 : 12 < 16 ∧ Cond.fieldLink RX11 38 (TX11 12).1 (TX11 12).2.1 (TX11 12).2.2.1 ∈ k_tG := ⟨by decide, k_memG 506 (by decide +kernel)⟩
theorem fX11_41 : 13 < 16 ∧ Cond.fieldLink RX11 41 (TX11 13).1 (TX11 13).2.1 (TX11 13).2.2.1 ∈ k_tG := ⟨by decide, k_memG 507 (by decide +kernel)⟩
theorem fX11_44 : 14 < 16 ∧ Cond.fieldLink RX11 44 (TX11 14).1 (TX11 14).2.1 (TX11 14).2.2.1 ∈ k_tG := ⟨by decide, k_memG 508 (by decide +kernel)⟩
theorem fX11_47 : 15 < 16 ∧ Cond.fieldLink RX11 47 (TX11 15).1 (TX11 15).2.1 (TX11 15).2.2.1 ∈ k_tG := ⟨by decide, k_memG 509 (by decide +kernel)⟩
theorem mL_24 : Cond.methodLink RL 24 yL_tires ∈ k_tG := k_memG 543 (by decide +kernel)
theorem mL_30 : Cond.methodLink RL 30 yL_strong ∈ k_tG := k_memG 546 (by decide +kernel)
theorem mL_33 : Cond.methodLink RL 33 yL_hours ∈ k_tG := k_memG 549 (by decide +kernel)
theorem mL_40 : Cond.methodLink RL 40 yL_fast ∈ k_tG := k_memG 552 (by decide +kernel)
theorem mL_43 : Cond.methodLink RL 43 yL_slow ∈ k_tG := k_memG 555 (by decide +kernel)
theorem mL_46 : Cond.methodLink RL 46 yL_gift ∈ k_tG := k_memG 558 (by decide +kernel)
theorem mL_52 : Cond.methodLink RL 52 yL_plan ∈ k_tG := k_memG 561 (by decide +kernel)
theorem mL_57 : Cond.methodLink RL 57 yL_counting ∈ k_tG := k_memG 564 (by decide +kernel)
theorem mL_61 : Cond.methodLink RL 61 yL_day ∈ k_tG := k_memG 567 (by decide +kernel)
theorem mL_64 : Cond.methodLink RL 64 yL_weight ∈ k_tG := k_memG 570 (by decide +kernel)
theorem mL_67 : Cond.methodLink RL 67 yX11_counts ∈ k_tG := k_memG 573 (by decide +kernel)
theorem mX11_179 : Cond.methodLink RX11 179 yX5_isTold ∈ k_tG := k_memG 577 (by decide +kernel)
theorem mX5_26 : Cond.methodLink RX5 26 yX5_dayOf ∈ k_tG := k_memG 581 (by decide +kernel)
theorem mX5_30 : Cond.methodLinkNest RX5 30 yX11_read "FitOnDay" ∈ k_tN := by decide +kernel
theorem mX11_182 : Cond.methodLink RX11 182 yX5_add ∈ k_tG := k_memG 586 (by decide +kernel)
theorem mX5_22 : Cond.methodLinkNest RX5 22 yX11_write "FitOnDay" ∈ k_tN := by decide +kernel
theorem cL_73 : Cond.classLink RL 73 RJ4 ∈ k_tG ∧ Cond.instantiable RJ4 4 ∈ k_tG ∧ Cond.initialized RJ4 ∈ k_tG := ⟨k_memG 591 (by decide +kernel), k_memG 592 (by decide +kernel), k_memG 31 (by decide +kernel)⟩
theorem mL_75 : Cond.methodLink RL 75 yJ4_init_da8c8 ∈ k_tG := k_memG 593 (by decide +kernel)
theorem mJ4_1 : Cond.methodLink RJ4 1 yJ5_init_d00df ∈ k_tG := k_memG 596 (by decide +kernel)
theorem mJ5_3 : Cond.methodLink RJ5 3 Lib.objectInit ∈ k_tG := k_memG 599 (by decide +kernel)
theorem fJ5_18 : Cond.fieldLink RJ5 18 "java/lang/String" "COMPACT_STRINGS" "Z" ∈ k_tG := k_memG 600 (by decide +kernel)
theorem mJ5_26 : Cond.methodLink RJ5 26 yJ2_newBytesFor_77867 ∈ k_tG := k_memG 602 (by decide +kernel)
theorem mJ2_11 : Cond.methodLink RJ2 11 yJ2_newBytesLength_0f7a4 ∈ k_tG := k_memG 605 (by decide +kernel)
theorem kJ2_20 : Cond.constant RJ2 20 (1073741823) ∈ k_tG := k_memG 608 (by decide +kernel)
theorem fJ5_15 : 0 < 4 ∧ Cond.fieldLink RJ5 15 (TJ4 0).1 (TJ4 0).2.1 (TJ4 0).2.2.1 ∈ k_tG := ⟨by decide, k_memG 609 (by decide +kernel)⟩
theorem fJ5_22 : 1 < 4 ∧ Cond.fieldLink RJ5 22 (TJ4 1).1 (TJ4 1).2.1 (TJ4 1).2.2.1 ∈ k_tG := ⟨by decide, k_memG 610 (by decide +kernel)⟩
theorem fJ0_1048 : 2 < 4 ∧ Cond.fieldLink RJ0 1048 (TJ4 2).1 (TJ4 2).2.1 (TJ4 2).2.2.1 ∈ k_tG := ⟨by decide, k_memG 611 (by decide +kernel)⟩
theorem fJ5_79 : 3 < 4 ∧ Cond.fieldLink RJ5 79 (TJ4 3).1 (TJ4 3).2.1 (TJ4 3).2.2.1 ∈ k_tG := ⟨by decide, k_memG 612 (by decide +kernel)⟩
theorem mL_78 : Cond.methodLink RL 78 yJ4_append_15ec4 ∈ k_tG := k_memG 624 (by decide +kernel)
theorem mJ4_29 : Cond.methodLink RJ4 29 yJ5_append_cf1ce ∈ k_tG := k_memG 628 (by decide +kernel)
theorem mJ5_204 : Cond.methodLink RJ5 204 yJ5_appendNull_278bc ∈ k_tG := k_memG 631 (by decide +kernel)
theorem mJ5_100 : Cond.methodLink RJ5 100 yJ5_ensureCapacityInternal_d00df ∈ k_tG := k_memG 635 (by decide +kernel)
theorem mJ5_104 : Cond.methodLink RJ5 104 yJ5_newCapacity_0f7a4 ∈ k_tG := k_memG 639 (by decide +kernel)
theorem mJ5_114 : Cond.methodLink RJ5 114 yJ8_newLength_cabcc ∈ k_tG := k_memG 643 (by decide +kernel)
theorem mJ8_194 : Cond.methodLink RJ8 194 yJ9_max_7cf53 ∈ k_tG := k_memG 646 (by decide +kernel)
theorem kJ8_200 : Cond.constant RJ8 200 (2147483639) ∈ k_tG := k_memG 649 (by decide +kernel)
theorem mJ8_201 : Cond.methodLink RJ8 201 yJ8_hugeLength_7cf53 ∈ k_tG := k_memG 650 (by decide +kernel)
theorem kJ5_39 : Cond.constant RJ5 39 (2147483647) ∈ k_tG := k_memG 653 (by decide +kernel)
theorem mJ5_108 : Cond.methodLink RJ5 108 yJ7_copyOf_9075b ∈ k_tG := k_memG 654 (by decide +kernel)
theorem mJ7_304 : Cond.methodLink RJ7 304 yJ9_min_7cf53 ∈ k_tG := k_memG 664 (by decide +kernel)
theorem mJ7_150 : Cond.methodLink RJ7 150 arraycopyName ∈ k_tG := k_memG 667 (by decide +kernel)
theorem mJ5_83 : Cond.methodLink RJ5 83 yJ5_isLatin1_aae02 ∈ k_tG := k_memG 670 (by decide +kernel)
theorem mJ5_226 : Cond.methodLink RJ5 226 yJ2_putCharsAt_cd4e5 ∈ k_tG := k_memG 675 (by decide +kernel)
theorem mJ2_96 : Cond.methodLink RJ2 96 yJ2_checkBoundsBeginEnd_d044e ∈ k_tG := k_memG 678 (by decide +kernel)
theorem mJ2_48 : Cond.methodLink RJ2 48 yJ2_length_9d52b ∈ k_tG := k_memG 681 (by decide +kernel)
theorem mJ2_241 : Cond.methodLink RJ2 241 yJ0_checkBoundsBeginEnd_23922 ∈ k_tG := k_memG 684 (by decide +kernel)
theorem fJ0_1053 : Cond.fieldLink RJ0 1053 "jdk/internal/util/Preconditions" "SIOOBE_FORMATTER" "Ljava/util/function/BiFunction;" ∈ k_tG := k_memG 687 (by decide +kernel)
theorem mJ0_1062 : Cond.methodLink RJ0 1062 yJ3_checkFromToIndex_8c36e ∈ k_tG := k_memG 689 (by decide +kernel)
theorem mJ2_111 : Cond.methodLink RJ2 111 yJ2_putChar_b72d1 ∈ k_tG := k_memG 692 (by decide +kernel)
theorem fJ2_44 : Cond.fieldLink RJ2 44 "java/lang/StringUTF16" "$assertionsDisabled" "Z" ∈ k_tG := k_memG 695 (by decide +kernel)
theorem fJ2_59 : Cond.fieldLink RJ2 59 "java/lang/StringUTF16" "HI_BYTE_SHIFT" "I" ∈ k_tG := k_memG 697 (by decide +kernel)
theorem fJ2_63 : Cond.fieldLink RJ2 63 "java/lang/StringUTF16" "LO_BYTE_SHIFT" "I" ∈ k_tG := k_memG 699 (by decide +kernel)
theorem mJ5_32 : Cond.methodLink RJ5 32 yJ0_length_8abf5 ∈ k_tG := k_memG 701 (by decide +kernel)
theorem mJ0_335 : Cond.methodLink RJ0 335 yJ0_coder_7d493 ∈ k_tG := k_memG 705 (by decide +kernel)
theorem fJ0_38 : Cond.fieldLink RJ0 38 "java/lang/String" "COMPACT_STRINGS" "Z" ∈ k_tG := k_memG 709 (by decide +kernel)
theorem mJ5_208 : Cond.methodLink RJ5 208 yJ5_putStringAt_47b60 ∈ k_tG := k_memG 710 (by decide +kernel)
theorem mJ5_397 : Cond.methodLink RJ5 397 yJ5_inflateIfNeededFor_a7421 ∈ k_tG := k_memG 714 (by decide +kernel)
theorem mJ5_40 : Cond.methodLink RJ5 40 yJ0_coder_7d493 ∈ k_tG := k_memG 718 (by decide +kernel)
theorem mJ5_195 : Cond.methodLink RJ5 195 yJ5_inflate_da8c8 ∈ k_tG := k_memG 719 (by decide +kernel)
theorem mJ5_125 : Cond.methodLink RJ5 125 yJ1_inflate_0e8fd ∈ k_tG := k_memG 723 (by decide +kernel)
theorem mJ1_240 : Cond.methodLink RJ1 240 yJ2_inflate_0e8fd ∈ k_tG := k_memG 726 (by decide +kernel)
theorem mJ2_173 : Cond.methodLink RJ2 173 yJ2_checkBoundsOffCount_d044e ∈ k_tG := k_memG 729 (by decide +kernel)
theorem mJ2_419 : Cond.methodLink RJ2 419 yJ0_checkBoundsOffCount_cabcc ∈ k_tG := k_memG 732 (by decide +kernel)
theorem mJ0_1065 : Cond.methodLink RJ0 1065 yJ3_checkFromIndexSize_8c36e ∈ k_tG := k_memG 735 (by decide +kernel)
theorem mJ5_399 : Cond.methodLink RJ5 399 yJ0_getBytes_840e7 ∈ k_tG := k_memG 738 (by decide +kernel)
theorem mJ0_212 : Cond.methodLink RJ0 212 arraycopyName ∈ k_tG := k_memG 742 (by decide +kernel)
theorem mJ0_106 : Cond.methodLink RJ0 106 yJ1_inflate_0e8fd ∈ k_tG := k_memG 743 (by decide +kernel)
theorem mL_82 : Cond.methodLink RL 82 yJ4_append_bf812 ∈ k_tG := k_memG 744 (by decide +kernel)
theorem mJ4_53 : Cond.methodLink RJ4 53 yJ5_append_c97b9 ∈ k_tG := k_memG 748 (by decide +kernel)
theorem mJ5_245 : Cond.methodLink RJ5 245 yJ6_stringSize_0f7a4 ∈ k_tG := k_memG 751 (by decide +kernel)
theorem mJ5_248 : Cond.methodLink RJ5 248 yJ6_getChars_ba4f3 ∈ k_tG := k_memG 754 (by decide +kernel)
theorem fJ6_83 : Cond.fieldLink RJ6 83 "java/lang/Integer" (k_tn 2) "[B" ∈ k_tG := k_memG 757 (by decide +kernel)
theorem fJ6_87 : Cond.fieldLink RJ6 87 "java/lang/Integer" (k_tn 1) "[B" ∈ k_tG := k_memG 759 (by decide +kernel)
theorem mJ5_251 : Cond.methodLink RJ5 251 yJ2_getChars_46870 ∈ k_tG := k_memG 761 (by decide +kernel)
theorem mJ2_393 : Cond.methodLink RJ2 393 yJ2_getChars_ba4f3 ∈ k_tG := k_memG 764 (by decide +kernel)
theorem fJ2_403 : Cond.fieldLink RJ2 403 "java/lang/Integer" (k_tn 2) "[B" ∈ k_tG := k_memG 767 (by decide +kernel)
theorem fJ2_407 : Cond.fieldLink RJ2 407 "java/lang/Integer" (k_tn 1) "[B" ∈ k_tG := k_memG 768 (by decide +kernel)
theorem mL_91 : Cond.methodLink RL 91 yJ4_toString_0e30d ∈ k_tG := k_memG 772 (by decide +kernel)
theorem cJ4_18 : Cond.classLink RJ4 18 RJ0 ∈ k_tG ∧ Cond.instantiable RJ0 4 ∈ k_tG ∧ Cond.initialized RJ0 ∈ k_tG := ⟨k_memG 776 (by decide +kernel), k_memG 777 (by decide +kernel), k_memG 32 (by decide +kernel)⟩
theorem mJ4_137 : Cond.methodLink RJ4 137 yJ0_init_81219 ∈ k_tG := k_memG 778 (by decide +kernel)
theorem mJ0_489 : Cond.methodLink RJ0 489 yJ0_init_db425 ∈ k_tG := k_memG 781 (by decide +kernel)
theorem mJ0_1 : Cond.methodLink RJ0 1 Lib.objectInit ∈ k_tG := k_memG 784 (by decide +kernel)
theorem mJ0_552 : Cond.methodLink RJ0 552 yJ5_getValue_6d5f1 ∈ k_tG := k_memG 785 (by decide +kernel)
theorem mJ0_549 : Cond.methodLink RJ0 549 yJ5_length_8abf5 ∈ k_tG := k_memG 790 (by decide +kernel)
theorem mJ4_343 : Cond.methodLink RJ4 343 yJ5_length_8abf5 ∈ k_tG := k_memG 796 (by decide +kernel)
theorem mJ0_1047 : Cond.methodLink RJ0 1047 yJ5_isLatin1_aae02 ∈ k_tG := k_memG 798 (by decide +kernel)
theorem mJ0_54 : Cond.methodLink RJ0 54 yJ7_copyOfRange_39247 ∈ k_tG := k_memG 799 (by decide +kernel)
theorem mJ7_339 : Cond.methodLink RJ7 339 yJ7_copyOfRangeByte_39247 ∈ k_tG := k_memG 802 (by decide +kernel)
theorem mJ7_343 : Cond.methodLink RJ7 343 yJ7_checkLength_df160 ∈ k_tG := k_memG 805 (by decide +kernel)
theorem mJ0_1051 : Cond.methodLink RJ0 1051 yJ2_compress_39247 ∈ k_tG := k_memG 808 (by decide +kernel)
theorem mJ2_123 : Cond.methodLink RJ2 123 yJ2_compress_5af95 ∈ k_tG := k_memG 811 (by decide +kernel)
theorem mJ2_71 : Cond.methodLink RJ2 71 yJ2_getChar_3b067 ∈ k_tG := k_memG 814 (by decide +kernel)
theorem mJ2_126 : Cond.methodLink RJ2 126 yJ7_copyOfRange_39247 ∈ k_tG := k_memG 817 (by decide +kernel)
theorem mJ0_47 : Cond.methodLink RJ0 47 yJ2_coderFromArrayLen_85cad ∈ k_tG := k_memG 818 (by decide +kernel)
theorem fJ0_9 : 0 < 4 ∧ Cond.fieldLink RJ0 9 (TJ0 0).1 (TJ0 0).2.1 (TJ0 0).2.2.1 ∈ k_tG := ⟨by decide, k_memG 821 (by decide +kernel)⟩
theorem fJ0_15 : 1 < 4 ∧ Cond.fieldLink RJ0 15 (TJ0 1).1 (TJ0 1).2.1 (TJ0 1).2.2.1 ∈ k_tG := ⟨by decide, k_memG 822 (by decide +kernel)⟩
theorem mL_95 : Cond.methodLink RL 95 yL_text ∈ k_tG := k_memG 832 (by decide +kernel)
theorem mL_7 : Cond.methodLink RL 7 yJ0_length_8abf5 ∈ k_tG := k_memG 835 (by decide +kernel)
theorem mL_13 : Cond.methodLink RL 13 yJ0_charAt_5068e ∈ k_tG := k_memG 836 (by decide +kernel)
theorem mJ0_492 : Cond.methodLink RJ0 492 yJ0_isLatin1_aae02 ∈ k_tG := k_memG 840 (by decide +kernel)
theorem mJ0_495 : Cond.methodLink RJ0 495 yJ1_charAt_3b067 ∈ k_tG := k_memG 844 (by decide +kernel)
theorem mJ1_9 : Cond.methodLink RJ1 9 yJ0_checkIndex_df160 ∈ k_tG := k_memG 847 (by decide +kernel)
theorem mJ0_1059 : Cond.methodLink RJ0 1059 yJ3_checkIndex_8e157 ∈ k_tG := k_memG 850 (by decide +kernel)
theorem mJ0_498 : Cond.methodLink RJ0 498 yJ2_charAt_3b067 ∈ k_tG := k_memG 853 (by decide +kernel)
theorem mJ2_67 : Cond.methodLink RJ2 67 yJ2_checkIndex_2214a ∈ k_tG := k_memG 856 (by decide +kernel)
theorem mJ2_414 : Cond.methodLink RJ2 414 yJ0_checkIndex_df160 ∈ k_tG := k_memG 859 (by decide +kernel)
theorem mL_17 : Cond.methodLink RL 17 yX11_feed ∈ k_tG := k_memG 860 (by decide +kernel)
theorem mX11_211 : Cond.methodLink RX11 211 yX11_write ∈ k_tG := k_memG 864 (by decide +kernel)
theorem mL_99 : Cond.methodLink RL 99 yX11_text ∈ k_tG := k_memG 865 (by decide +kernel)
theorem mX11_215 : Cond.methodLink RX11 215 yX6_faultOf ∈ k_tG := k_memG 869 (by decide +kernel)
theorem mX6_38 : Cond.methodLinkNest RX6 38 yX11_read "FitOnDay" ∈ k_tN := by decide +kernel
theorem mX6_42 : Cond.methodLink RX6 42 yX6_beginsPart ∈ k_tG := k_memG 874 (by decide +kernel)
theorem mX6_53 : Cond.methodLink RX6 53 yX6_isDigit ∈ k_tG := k_memG 878 (by decide +kernel)
theorem mX6_56 : Cond.methodLink RX6 56 yX9_nameOf ∈ k_tG := k_memG 881 (by decide +kernel)
theorem mX6_62 : Cond.methodLink RX6 62 yX6_emit ∈ k_tG := k_memG 884 (by decide +kernel)
theorem mX6_88 : Cond.methodLinkNest RX6 88 yX11_write "FitOnDay" ∈ k_tN := by decide +kernel
theorem mX6_66 : Cond.methodLink RX6 66 yX6_await ∈ k_tG := k_memG 889 (by decide +kernel)
theorem mX6_46 : Cond.methodLink RX6 46 yX6_goesOnBehindPart ∈ k_tG := k_memG 893 (by decide +kernel)
theorem mX6_69 : Cond.methodLink RX6 69 yX6_goesOnNumber ∈ k_tG := k_memG 897 (by decide +kernel)
theorem mX6_72 : Cond.methodLink RX6 72 yX6_closes ∈ k_tG := k_memG 901 (by decide +kernel)
theorem mX6_81 : Cond.methodLink RX6 81 yX6_emitWaiting ∈ k_tG := k_memG 905 (by decide +kernel)
theorem mX6_84 : Cond.methodLink RX6 84 yX6_latestWaiting ∈ k_tG := k_memG 909 (by decide +kernel)
theorem mX6_78 : Cond.methodLink RX6 78 yX6_levelOf ∈ k_tG := k_memG 913 (by decide +kernel)
theorem mX6_49 : Cond.methodLink RX6 49 yX6_endsLine ∈ k_tG := k_memG 916 (by decide +kernel)
theorem mX6_75 : Cond.methodLink RX6 75 yX6_asks ∈ k_tG := k_memG 920 (by decide +kernel)
theorem mX11_223 : Cond.methodLink RX11 223 yX9_become ∈ k_tG := k_memG 924 (by decide +kernel)
theorem mX9_26 : Cond.methodLinkNest RX9 26 yX11_read "FitOnDay" ∈ k_tN := by decide +kernel
theorem mX9_30 : Cond.methodLinkNest RX9 30 yX11_write "FitOnDay" ∈ k_tN := by decide +kernel
theorem mL_101 : Cond.methodLink RL 101 yL_lost ∈ k_tG := k_memG 930 (by decide +kernel)
theorem mL_104 : Cond.methodLink RL 104 yX11_lost ∈ k_tG := k_memG 933 (by decide +kernel)
theorem mL_106 : Cond.methodLink RL 106 yL_left ∈ k_tG := k_memG 937 (by decide +kernel)
theorem mL_109 : Cond.methodLink RL 109 yL_points ∈ k_tG := k_memG 940 (by decide +kernel)
theorem mL_140 : Cond.methodLink RL 140 yJ9_min_7cf53 ∈ k_tG := k_memG 943 (by decide +kernel)
theorem kL_149 : Cond.constant RL 149 (-2000000000) ∈ k_tG := k_memG 944 (by decide +kernel)
theorem kL_150 : Cond.constant RL 150 (100000) ∈ k_tG := k_memG 945 (by decide +kernel)
theorem w_obj : Cond.instanceMethod Lib.objectInit ∈ k_tG ∧ Cond.code Lib.objectInit ⟨#[0xb1]⟩ 1 none ∈ k_tG := ⟨k_memG 217 (by decide +kernel), k_memG 218 (by decide +kernel)⟩
theorem w_arrI : Cond.arrayClass .int ∈ k_tG := k_memG 252 (by decide +kernel)
theorem w_arrB : Cond.arrayClass .byte ∈ k_tG := k_memG 622 (by decide +kernel)
theorem w_cpy : Cond.native arraycopyName ∈ k_tG ∧ Cond.static arraycopyName ∈ k_tG ∧ Cond.initialized "java/lang/System" ∈ k_tG := ⟨k_memG 669 (by decide +kernel), k_memG 668 (by decide +kernel), k_memG 37 (by decide +kernel)⟩
theorem w_arrJ : Cond.arrayClass .long ∈ k_tG := k_memG 297 (by decide +kernel)
