/-- the law, under whatever name -/
abbrev Mn (nm : String) : k_M := (⟨RL, nm, "([I)Z"⟩, code, 10, ret)
/-- it answers true -/
abbrev PoL : Option Value → k_H → Prop := fun r _ => r = some (.int (nI 1))
theorem nret : narrow .boolean (.int (nI 1)) = .int (nI 1) := rfl
theorem rf_fit (V : k_V) : aFit V (nI 2) (nI 2000) (nI 0) = -2000000000 ∧ aFit V (nI 2) (nI 120) (nI 0) = -2000000000 ∧ aFit V (nI 2) (nI 0) (nI 3) = -2000000000 := ⟨by rw [aFit, if_neg (by decide)], by rw [aFit, if_neg (by decide)], by rw [aFit, if_neg (by decide)]⟩
theorem rf_pts (V : k_V) : aPts V (nI 2) (nI 4) (nI 2) (nI 0) (nI 0) = -2000000000 ∧ aPts V (nI 2) (nI 4) (nI 0) (nI 4) (nI 0) = -2000000000 ∧ aPts V (nI 2) (nI 4) (nI 0) (nI 0) (nI 120) = -2000000000 := ⟨by rw [aPts, if_neg (by decide)], by rw [aPts, if_neg (by decide)], by rw [aPts, if_neg (by decide)]⟩
theorem rf_led (V : k_V) : aLed V (nI 2) (nI 2000) = -1 := by rw [aLed, if_neg (by decide)]
theorem rf_alk (V : k_V) : aAlk V (nI 2) (nI 0) = -1 ∧ aAlk V (nI 2) (nI 2) = -1 := ⟨by rw [aAlk, if_neg (by decide)], by rw [aAlk, if_neg (by decide)]⟩
theorem rf_of (V : k_V) : aOf V (nI 120) = -1 := by rw [aOf, if_neg (by decide)]
theorem rf_pln {W : k_S} (h : W.1 803 = nI 4) (n : Nat) : (aPln (W.2.1 25) (W.1 803) (nI 0) (nI 4) = -1 ∧ sPln W n (nI 0) (nI 4) = W) ∧ aPln (W.2.1 25) (W.1 803) (nI 120) (nI 0) = -1 ∧ sPln W n (nI 120) (nI 0) = W := by
  have e1 : ¬ (pD (nI 0) ∧ pW (nI 4) (nI 4)) := by decide
  have e2 : ¬ (pD (nI 120) ∧ pW (nI 4) (nI 0)) := by decide
  rw [h]
  refine ⟨⟨by rw [aPln, if_neg e1], ?_⟩, by rw [aPln, if_neg e2], ?_⟩
  · rw [sPln, h, if_neg e1]
  · rw [sPln, h, if_neg e2]
theorem rf_wrk (W : k_S) : aWork 4 (nI 100000) = -1 ∧ sWork W 4 (nI 100000) = W := ⟨by rw [aWork, if_neg (by decide)], by rw [sWork, if_neg (by decide)]⟩
theorem rf_run (W : k_S) : (aRun 2 (nI 1000) (nI 500) = -1 ∧ sRun W 2 (nI 1000) (nI 500) = W) ∧ (aRun 2 (nI 1) (nI 500) = -1 ∧ sRun W 2 (nI 1) (nI 500) = W) ∧ aRun 2 (nI 1001) (nI 499) = -1 ∧ sRun W 2 (nI 1001) (nI 499) = W := ⟨⟨by rw [aRun, if_neg (by decide)], by rw [sRun, if_neg (by decide)]⟩, ⟨by rw [aRun, if_neg (by decide)], by rw [sRun, if_neg (by decide)]⟩, by rw [aRun, if_neg (by decide)], by rw [sRun, if_neg (by decide)]⟩
theorem rf_mnd {W : k_S} (h : W.1 803 = nI 4) (n : Nat) (f g : Nat → Int32) : (aMnd f g (W.1 803) (nI 0) (nI 0) (nI 1) = -1 ∧ sMnd W n (nI 0) (nI 0) (nI 1) = W) ∧ (aMnd f g (W.1 803) (nI 1) (nI 2) (nI 0) = -1 ∧ sMnd W n (nI 1) (nI 2) (nI 0) = W) ∧ aMnd f g (W.1 803) (nI 1) (nI 0) (nI 100) = -1 ∧ sMnd W n (nI 1) (nI 0) (nI 100) = W := by
  have e1 : ¬ pMnd (nI 4) (nI 0) (nI 0) (nI 1) := by decide
  have e2 : ¬ pMnd (nI 4) (nI 1) (nI 2) (nI 0) := by decide
  have e3 : ¬ pMnd (nI 4) (nI 1) (nI 0) (nI 100) := by decide
  rw [h]
  refine ⟨⟨by rw [aMnd, if_neg e1], ?_⟩, ⟨by rw [aMnd, if_neg e2], ?_⟩, by rw [aMnd, if_neg e3], ?_⟩
  · rw [sMnd, h, if_neg e1]
  · rw [sMnd, h, if_neg e2]
  · rw [sMnd, h, if_neg e3]
set_option maxHeartbeats 2000000 in
theorem t556 {nm : String} {Ns : Nat} {xs : Nat → Int32} {W : k_S} {g : k_H} {P : Nat → Nat} {n : Nat} (hF : LF Ns xs W P) (hn : W.1 1656 = nI n) (h40 : n ≤ 40) : AW (some (Ns, xs)) (Mn nm) 12 0 0 556 [.retAddr 0, .ref 0, .null, .null, .null, .null, .null, .null, .null, .null] [] (hp W ++ g) PoL := by
  refine k_aload_n eL_law_556 rfl ?_
  refine k_sipush (v := nI 2000) eL_law_557 (by decide) ?_
  refine k_iconst (v := nI 0) eL_law_560 (by decide) ?_
  refine cG1 (M' := MX11_fit) eL_law_561 mL_125 wX11_fit vX11_fit ⟨_, _, _, rfl, rfl, rfl⟩ rfl (pX11_fit (S := W) rfl hF.pl.1 hF.2.1 (by decide) (nI 2000) (nI 0)) (by decide) (Nat.le_of_ble_eq_true rfl) ?_
  refine k_topi ((-2000000000 : Int32)) (by rw [hF.2.1]; exact (rf_fit _).1) ?_
  refine k_ldc eL_law_564 kL_149 rfl ?_
  refine k_icmp_ne 777 eL_law_566 (by decide) (fun c_566 => by exact absurd rfl c_566) (fun c_566 => ?_)
  refine k_aload_n eL_law_569 rfl ?_
  refine k_bipush (v := nI 120) eL_law_570 (by decide) ?_
  refine k_iconst (v := nI 0) eL_law_572 (by decide) ?_
  refine cG1 (M' := MX11_fit) eL_law_573 mL_125 wX11_fit vX11_fit ⟨_, _, _, rfl, rfl, rfl⟩ rfl (pX11_fit (S := W) rfl hF.pl.1 hF.2.1 (by decide) (nI 120) (nI 0)) (by decide) (Nat.le_of_ble_eq_true rfl) ?_
  refine k_topi ((-2000000000 : Int32)) (by rw [hF.2.1]; exact (rf_fit _).2.1) ?_
  refine k_ldc eL_law_576 kL_149 rfl ?_
  refine k_icmp_ne 777 eL_law_578 (by decide) (fun c_578 => by exact absurd rfl c_578) (fun c_578 => ?_)
  refine k_aload_n eL_law_581 rfl ?_
  refine k_iconst (v := nI 0) eL_law_582 (by decide) ?_
  refine k_iconst (v := nI 3) eL_law_583 (by decide) ?_
  refine cG1 (M' := MX11_fit) eL_law_584 mL_125 wX11_fit vX11_fit ⟨_, _, _, rfl, rfl, rfl⟩ rfl (pX11_fit (S := W) rfl hF.pl.1 hF.2.1 (by decide) (nI 0) (nI 3)) (by decide) (Nat.le_of_ble_eq_true rfl) ?_
  refine k_topi ((-2000000000 : Int32)) (by rw [hF.2.1]; exact (rf_fit _).2.2) ?_
  refine k_ldc eL_law_587 kL_149 rfl ?_
  refine k_icmp_ne 777 eL_law_589 (by decide) (fun c_589 => by exact absurd rfl c_589) (fun c_589 => ?_)
  refine k_aload_n eL_law_592 rfl ?_
  refine k_iconst (v := nI 2) eL_law_593 (by decide) ?_
  refine k_iconst (v := nI 0) eL_law_594 (by decide) ?_
  refine k_iconst (v := nI 0) eL_law_595 (by decide) ?_
  refine cG1 (M' := MX11_points) eL_law_596 mL_122 wX11_points vX11_points ⟨_, _, _, rfl, rfl, rfl⟩ rfl (pX11_points (S := W) rfl hF.2.1 (by decide) hF.1 (by decide) (by decide) (nI 2) (nI 0) (nI 0)) (by decide) (Nat.le_of_ble_eq_true rfl) ?_
  refine k_topi ((-2000000000 : Int32)) (by rw [hF.1, hF.2.1]; exact (rf_pts _).1) ?_
  refine k_ldc eL_law_599 kL_149 rfl ?_
  refine k_icmp_ne 777 eL_law_601 (by decide) (fun c_601 => by exact absurd rfl c_601) (fun c_601 => ?_)
  refine k_aload_n eL_law_604 rfl ?_
  refine k_iconst (v := nI 0) eL_law_605 (by decide) ?_
  refine k_iconst (v := nI 4) eL_law_606 (by decide) ?_
  refine k_iconst (v := nI 0) eL_law_607 (by decide) ?_
  refine cG1 (M' := MX11_points) eL_law_608 mL_122 wX11_points vX11_points ⟨_, _, _, rfl, rfl, rfl⟩ rfl (pX11_points (S := W) rfl hF.2.1 (by decide) hF.1 (by decide) (by decide) (nI 0) (nI 4) (nI 0)) (by decide) (Nat.le_of_ble_eq_true rfl) ?_
  refine k_topi ((-2000000000 : Int32)) (by rw [hF.1, hF.2.1]; exact (rf_pts _).2.1) ?_
  refine k_ldc eL_law_611 kL_149 rfl ?_
  refine k_icmp_ne 777 eL_law_613 (by decide) (fun c_613 => by exact absurd rfl c_613) (fun c_613 => ?_)
  refine k_aload_n eL_law_616 rfl ?_
  refine k_iconst (v := nI 0) eL_law_617 (by decide) ?_
  refine k_iconst (v := nI 0) eL_law_618 (by decide) ?_
  refine k_bipush (v := nI 120) eL_law_619 (by decide) ?_
  refine cG1 (M' := MX11_points) eL_law_621 mL_122 wX11_points vX11_points ⟨_, _, _, rfl, rfl, rfl⟩ rfl (pX11_points (S := W) rfl hF.2.1 (by decide) hF.1 (by decide) (by decide) (nI 0) (nI 0) (nI 120)) (by decide) (Nat.le_of_ble_eq_true rfl) ?_
  refine k_topi ((-2000000000 : Int32)) (by rw [hF.1, hF.2.1]; exact (rf_pts _).2.2) ?_
  refine k_ldc eL_law_624 kL_149 rfl ?_
  refine k_icmp_ne 777 eL_law_626 (by decide) (fun c_626 => by exact absurd rfl c_626) (fun c_626 => ?_)
  refine k_aload_n eL_law_629 rfl ?_
  refine k_sipush (v := nI 2000) eL_law_630 (by decide) ?_
  refine cG1 (M' := MX11_led) eL_law_633 mL_128 wX11_led vX11_led ⟨_, _, _, rfl, rfl, rfl⟩ rfl (pX11_led (S := W) rfl hF.pl.1 hF.2.1 (by decide) (nI 2000)) (by decide) (Nat.le_of_ble_eq_true rfl) ?_
  refine k_topi ((-1)) (by rw [hF.2.1]; exact rf_led _) ?_
  refine k_iconst (v := (-1)) eL_law_636 (by decide) ?_
  refine k_icmp_ne 777 eL_law_637 (by decide) (fun c_637 => by exact absurd rfl c_637) (fun c_637 => ?_)
  refine k_aload_n eL_law_640 rfl ?_
  refine k_iconst (v := nI 0) eL_law_641 (by decide) ?_
  refine cG1 (M' := MX11_alike) eL_law_642 mL_134 wX11_alike vX11_alike ⟨_, _, _, rfl, rfl, rfl⟩ rfl (pX11_alike (S := W) rfl hF.pl.1 hF.2.1 (by decide) (nI 0)) (by decide) (Nat.le_of_ble_eq_true rfl) ?_
  refine k_topi ((-1)) (by rw [hF.2.1]; exact (rf_alk _).1) ?_
  refine k_iconst (v := (-1)) eL_law_645 (by decide) ?_
  refine k_icmp_ne 777 eL_law_646 (by decide) (fun c_646 => by exact absurd rfl c_646) (fun c_646 => ?_)
  refine k_aload_n eL_law_649 rfl ?_
  refine k_iconst (v := nI 2) eL_law_650 (by decide) ?_
  refine cG1 (M' := MX11_alike) eL_law_651 mL_134 wX11_alike vX11_alike ⟨_, _, _, rfl, rfl, rfl⟩ rfl (pX11_alike (S := W) rfl hF.pl.1 hF.2.1 (by decide) (nI 2)) (by decide) (Nat.le_of_ble_eq_true rfl) ?_
  refine k_topi ((-1)) (by rw [hF.2.1]; exact (rf_alk _).2) ?_
  refine k_iconst (v := (-1)) eL_law_654 (by decide) ?_
  refine k_icmp_ne 777 eL_law_655 (by decide) (fun c_655 => by exact absurd rfl c_655) (fun c_655 => ?_)
  refine k_aload_n eL_law_658 rfl ?_
  refine k_bipush (v := nI 120) eL_law_659 (by decide) ?_
  refine cG1 (M' := MX11_of) eL_law_661 mL_131 wX11_of vX11_of ⟨_, _, _, rfl, rfl, rfl⟩ rfl (pX11_of (S := W) rfl (nI 120)) (by decide) (Nat.le_of_ble_eq_true rfl) ?_
  refine k_topi ((-1)) (rf_of _) ?_
  refine k_iconst (v := (-1)) eL_law_664 (by decide) ?_
  refine k_icmp_ne 777 eL_law_665 (by decide) (fun c_665 => by exact absurd rfl c_665) (fun c_665 => ?_)
  refine k_aload_n eL_law_668 rfl ?_
  refine k_iconst (v := nI 0) eL_law_669 (by decide) ?_
  refine k_iconst (v := nI 4) eL_law_670 (by decide) ?_
  refine cG1 (M' := MX11_plan) eL_law_671 mL_55 wX11_plan vX11_plan ⟨_, _, _, rfl, rfl, rfl⟩ rfl (by have q := pX11_plan (S := W) hn h40 (nI 0) (nI 4); rw [((rf_pln hF.1 n).1).1, ((rf_pln hF.1 n).1).2] at q; exact q) (by decide) (Nat.le_of_ble_eq_true rfl) ?_
  refine k_topi ((-1)) rfl ?_
  refine k_iconst (v := (-1)) eL_law_674 (by decide) ?_
  refine k_icmp_ne 777 eL_law_675 (by decide) (fun c_675 => by exact absurd rfl c_675) (fun c_675 => ?_)
  refine k_aload_n eL_law_678 rfl ?_
  refine k_bipush (v := nI 120) eL_law_679 (by decide) ?_
  refine k_iconst (v := nI 0) eL_law_681 (by decide) ?_
  refine cG1 (M' := MX11_plan) eL_law_682 mL_55 wX11_plan vX11_plan ⟨_, _, _, rfl, rfl, rfl⟩ rfl (by have q := pX11_plan (S := W) hn h40 (nI 120) (nI 0); rw [((rf_pln hF.1 n).2).1, ((rf_pln hF.1 n).2).2] at q; exact q) (by decide) (Nat.le_of_ble_eq_true rfl) ?_
  refine k_topi ((-1)) rfl ?_
  refine k_iconst (v := (-1)) eL_law_685 (by decide) ?_
  refine k_icmp_ne 777 eL_law_686 (by decide) (fun c_686 => by exact absurd rfl c_686) (fun c_686 => ?_)
  refine k_aload_n eL_law_689 rfl ?_
  refine k_ldc eL_law_690 kL_150 rfl ?_
  refine k_topi (nI 100000) (by decide) ?_
  refine cG1 (M' := MX11_work) eL_law_692 mL_36 wX11_work vX11_work ⟨_, _, _, rfl, rfl, rfl⟩ rfl (by have q := pX11_work (S := W) hF.1 (by decide) (by decide) (nI 100000); rw [(rf_wrk W).1, (rf_wrk W).2] at q; exact q) (by decide) (Nat.le_of_ble_eq_true rfl) ?_
  refine k_topi ((-1)) rfl ?_
  refine k_iconst (v := (-1)) eL_law_695 (by decide) ?_
  refine k_icmp_ne 777 eL_law_696 (by decide) (fun c_696 => by exact absurd rfl c_696) (fun c_696 => ?_)
  refine k_aload_n eL_law_699 rfl ?_
  refine k_sipush (v := nI 1000) eL_law_700 (by decide) ?_
  refine k_sipush (v := nI 500) eL_law_703 (by decide) ?_
  refine cG1 (M' := MX11_runner) eL_law_706 mL_49 wX11_runner vX11_runner ⟨_, _, _, rfl, rfl, rfl⟩ rfl (by have q := pX11_runner (S := W) hF.2.1 (by decide) (nI 1000) (nI 500); rw [((rf_run W).1).1, ((rf_run W).1).2] at q; exact q) (by decide) (Nat.le_of_ble_eq_true rfl) ?_
  refine k_topi ((-1)) rfl ?_
  refine k_iconst (v := (-1)) eL_law_709 (by decide) ?_
  refine k_icmp_ne 777 eL_law_710 (by decide) (fun c_710 => by exact absurd rfl c_710) (fun c_710 => ?_)
  refine k_aload_n eL_law_713 rfl ?_
  refine k_iconst (v := nI 1) eL_law_714 (by decide) ?_
  refine k_sipush (v := nI 500) eL_law_715 (by decide) ?_
  refine cG1 (M' := MX11_runner) eL_law_718 mL_49 wX11_runner vX11_runner ⟨_, _, _, rfl, rfl, rfl⟩ rfl (by have q := pX11_runner (S := W) hF.2.1 (by decide) (nI 1) (nI 500); rw [((rf_run W).2.1).1, ((rf_run W).2.1).2] at q; exact q) (by decide) (Nat.le_of_ble_eq_true rfl) ?_
  refine k_topi ((-1)) rfl ?_
  refine k_iconst (v := (-1)) eL_law_721 (by decide) ?_
  refine k_icmp_ne 777 eL_law_722 (by decide) (fun c_722 => by exact absurd rfl c_722) (fun c_722 => ?_)
  refine k_aload_n eL_law_725 rfl ?_
  refine k_sipush (v := nI 1001) eL_law_726 (by decide) ?_
  refine k_sipush (v := nI 499) eL_law_729 (by decide) ?_
  refine cG1 (M' := MX11_runner) eL_law_732 mL_49 wX11_runner vX11_runner ⟨_, _, _, rfl, rfl, rfl⟩ rfl (by have q := pX11_runner (S := W) hF.2.1 (by decide) (nI 1001) (nI 499); rw [((rf_run W).2.2).1, ((rf_run W).2.2).2] at q; exact q) (by decide) (Nat.le_of_ble_eq_true rfl) ?_
  refine k_topi ((-1)) rfl ?_
  refine k_iconst (v := (-1)) eL_law_735 (by decide) ?_
  refine k_icmp_ne 777 eL_law_736 (by decide) (fun c_736 => by exact absurd rfl c_736) (fun c_736 => ?_)
  refine k_aload_n eL_law_739 rfl ?_
  refine k_iconst (v := nI 0) eL_law_740 (by decide) ?_
  refine k_iconst (v := nI 0) eL_law_741 (by decide) ?_
  refine k_iconst (v := nI 1) eL_law_742 (by decide) ?_
  refine cG1 (M' := MX11_mend) eL_law_743 mL_151 wX11_mend vX11_mend ⟨_, _, _, rfl, rfl, rfl⟩ rfl (by have q := pX11_mend (S := W) hF.1 (by decide) (by decide) hn h40 (nI 0) (nI 0) (nI 1); rw [((rf_mnd hF.1 n (W.2.1 17) (W.2.1 18)).1).1, ((rf_mnd hF.1 n (W.2.1 17) (W.2.1 18)).1).2] at q; exact q) (by decide) (Nat.le_of_ble_eq_true rfl) ?_
  refine k_topi ((-1)) rfl ?_
  refine k_iconst (v := (-1)) eL_law_746 (by decide) ?_
  refine k_icmp_ne 777 eL_law_747 (by decide) (fun c_747 => by exact absurd rfl c_747) (fun c_747 => ?_)
  refine k_aload_n eL_law_750 rfl ?_
  refine k_iconst (v := nI 1) eL_law_751 (by decide) ?_
  refine k_iconst (v := nI 2) eL_law_752 (by decide) ?_
  refine k_iconst (v := nI 0) eL_law_753 (by decide) ?_
  refine cG1 (M' := MX11_mend) eL_law_754 mL_151 wX11_mend vX11_mend ⟨_, _, _, rfl, rfl, rfl⟩ rfl (by have q := pX11_mend (S := W) hF.1 (by decide) (by decide) hn h40 (nI 1) (nI 2) (nI 0); rw [((rf_mnd hF.1 n (W.2.1 17) (W.2.1 18)).2.1).1, ((rf_mnd hF.1 n (W.2.1 17) (W.2.1 18)).2.1).2] at q; exact q) (by decide) (Nat.le_of_ble_eq_true rfl) ?_
  refine k_topi ((-1)) rfl ?_
  refine k_iconst (v := (-1)) eL_law_757 (by decide) ?_
  refine k_icmp_ne 777 eL_law_758 (by decide) (fun c_758 => by exact absurd rfl c_758) (fun c_758 => ?_)
  refine k_aload_n eL_law_761 rfl ?_
  refine k_iconst (v := nI 1) eL_law_762 (by decide) ?_
  refine k_iconst (v := nI 0) eL_law_763 (by decide) ?_
  refine k_bipush (v := nI 100) eL_law_764 (by decide) ?_
  refine cG1 (M' := MX11_mend) eL_law_766 mL_151 wX11_mend vX11_mend ⟨_, _, _, rfl, rfl, rfl⟩ rfl (by have q := pX11_mend (S := W) hF.1 (by decide) (by decide) hn h40 (nI 1) (nI 0) (nI 100); rw [((rf_mnd hF.1 n (W.2.1 17) (W.2.1 18)).2.2).1, ((rf_mnd hF.1 n (W.2.1 17) (W.2.1 18)).2.2).2] at q; exact q) (by decide) (Nat.le_of_ble_eq_true rfl) ?_
  refine k_topi ((-1)) rfl ?_
  refine k_iconst (v := (-1)) eL_law_769 (by decide) ?_
  refine k_icmp_ne 777 eL_law_770 (by decide) (fun c_770 => by exact absurd rfl c_770) (fun c_770 => ?_)
  refine k_iconst (v := nI 1) eL_law_773 (by decide) ?_
  refine k_goto 778 eL_law_774 (by decide) ?_
  refine k_ireturn eL_law_778 rfl rfl ?_
  rfl
