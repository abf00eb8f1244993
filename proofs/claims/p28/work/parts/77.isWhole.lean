theorem wb_3 {S : SC} {b : Nat} (hb : b < 6) : tbS S (nI b) 6 = 1 ↔ ¬ 2 * erlN S (nI b) (sA S 0 b / 2) ≤ deadN S (nI b) := by
  have e : tbS S (nI b) 6 = b2i (deadN S (nI b) < 2 * erlN S (nI b) (sA S 0 b / 2)) := tb_w hb 6
  rw [e, b2i_1, Int32.not_le]

set_option maxRecDepth 100000 in
set_option maxHeartbeats 4000000 in
theorem kL_isWhole (l : Launch) (G : GG) (a : AT) (O : OS) {H : Int} (hI : Iv H (oN O)) : RO l G yL_isWhole wsL_isWhole ({ frames := 6, cells := 0, slots := 0, locals := 139 } : Room) [.ref (aaX a)] (obW G a O) (.int 1) := by
  refine RO.of (cc := cL_isWhole) (maxL := 14) (ret := (some .boolean)) (by decide) rfl (Nat.le_of_ble_eq_true rfl) ?_
  intro cx hxl hxG C E
  subst hxl
  subst hxG
  show X cx (0, 0) (obW (xG cx) a O) [(0, .ref (aaX a))] 0 []
  have hok : okS (oN O) := hI.okS
  have hn : sN (oN O) ≤ 60 := hI.n60
  have hdn : dN (oN O) ≤ 60 := Nat.le_trans (cN_le _ _) hn
  refine x_iconst (v := 0) C dL_isWhole_0 (by decide) ?_
  refine x_istore_n C [(1, .int 0), (0, .ref (aaX a))] dL_isWhole_1 rfl (by decide) rfl ?_
  refine x_iconst (v := 0) C dL_isWhole_2 (by decide) ?_
  refine x_istore_n C [(2, .int 0), (1, .int 0), (0, .ref (aaX a))] dL_isWhole_3 rfl (by decide) rfl ?_
  refine x_iconst (v := 0) C dL_isWhole_4 (by decide) ?_
  refine x_istore_n C [(3, .int 0), (2, .int 0), (1, .int 0), (0, .ref (aaX a))] dL_isWhole_5 rfl (by decide) rfl ?_
  refine x_iconst (v := 0) C dL_isWhole_6 (by decide) ?_
  refine x_istore C [(4, .int 0), (3, .int 0), (2, .int 0), (1, .int 0), (0, .ref (aaX a))] dL_isWhole_7 (by decide) rfl ?_
  refine x_iconst (v := 0) C dL_isWhole_9 (by decide) ?_
  refine x_istore C [(5, .int 0), (4, .int 0), (3, .int 0), (2, .int 0), (1, .int 0), (0, .ref (aaX a))] dL_isWhole_10 (by decide) rfl ?_
  refine x_iconst (v := 0) C dL_isWhole_12 (by decide) ?_
  refine x_istore C [(6, .int 0), (5, .int 0), (4, .int 0), (3, .int 0), (2, .int 0), (1, .int 0), (0, .ref (aaX a))] dL_isWhole_13 (by decide) rfl ?_
  refine x_iconst (v := 1) C dL_isWhole_15 (by decide) ?_
  refine x_istore C [(7, .int 1), (6, .int 0), (5, .int 0), (4, .int 0), (3, .int 0), (2, .int 0), (1, .int 0), (0, .ref (aaX a))] dL_isWhole_16 (by decide) rfl ?_
  refine x_iconst (v := 0) C dL_isWhole_18 (by decide) ?_
  refine x_istore C [(8, .int 0), (7, .int 1), (6, .int 0), (5, .int 0), (4, .int 0), (3, .int 0), (2, .int 0), (1, .int 0), (0, .ref (aaX a))] dL_isWhole_19 (by decide) rfl ?_
  have ex_21 : X cx (0, 0) (obW (xG cx) a O) [(0, .ref (aaX a)), (1, .int (sm (sA (oN O) 6) (sN (oN O)))), (2, .int (sm (sA (oN O) 5) (sN (oN O)))), (3, .int (cnt (fun j => sA (oN O) 7 j ≠ -1) (sN (oN O)))), (4, .int (cnt (fun k => wdS (oN O) k = 0) (sN (oN O)))), (5, .int (cnt (fun j => sA (oN O) 3 j ≠ -1) (sN (oN O)))), (6, .int (cnt (fun j => shr (nI j) = 9) (sN (oN O)))), (7, .int 1)] 399 [] := by
    refine x_iconst (v := 0) C dL_isWhole_399 (by decide) ?_
    refine x_istore C [(8, .int 0), (0, .ref (aaX a)), (1, .int (sm (sA (oN O) 6) (sN (oN O)))), (2, .int (sm (sA (oN O) 5) (sN (oN O)))), (3, .int (cnt (fun j => sA (oN O) 7 j ≠ -1) (sN (oN O)))), (4, .int (cnt (fun k => wdS (oN O) k = 0) (sN (oN O)))), (5, .int (cnt (fun j => sA (oN O) 3 j ≠ -1) (sN (oN O)))), (6, .int (cnt (fun j => shr (nI j) = 9) (sN (oN O)))), (7, .int 1)] dL_isWhole_400 (by decide) rfl ?_
    refine x_iconst (v := 0) C dL_isWhole_402 (by decide) ?_
    refine x_istore C [(9, .int 0), (8, .int 0), (0, .ref (aaX a)), (1, .int (sm (sA (oN O) 6) (sN (oN O)))), (2, .int (sm (sA (oN O) 5) (sN (oN O)))), (3, .int (cnt (fun j => sA (oN O) 7 j ≠ -1) (sN (oN O)))), (4, .int (cnt (fun k => wdS (oN O) k = 0) (sN (oN O)))), (5, .int (cnt (fun j => sA (oN O) 3 j ≠ -1) (sN (oN O)))), (6, .int (cnt (fun j => shr (nI j) = 9) (sN (oN O)))), (7, .int 1)] dL_isWhole_403 (by decide) rfl ?_
    refine x_iconst (v := 0) C dL_isWhole_405 (by decide) ?_
    refine x_istore C [(10, .int 0), (9, .int 0), (8, .int 0), (0, .ref (aaX a)), (1, .int (sm (sA (oN O) 6) (sN (oN O)))), (2, .int (sm (sA (oN O) 5) (sN (oN O)))), (3, .int (cnt (fun j => sA (oN O) 7 j ≠ -1) (sN (oN O)))), (4, .int (cnt (fun k => wdS (oN O) k = 0) (sN (oN O)))), (5, .int (cnt (fun j => sA (oN O) 3 j ≠ -1) (sN (oN O)))), (6, .int (cnt (fun j => shr (nI j) = 9) (sN (oN O)))), (7, .int 1)] dL_isWhole_406 (by decide) rfl ?_
    have ex_408 : X cx (0, 0) (obW (xG cx) a O) [(0, .ref (aaX a)), (1, .int (sm (sA (oN O) 6) (sN (oN O)))), (2, .int (sm (sA (oN O) 5) (sN (oN O)))), (3, .int (cnt (fun j => sA (oN O) 7 j ≠ -1) (sN (oN O)))), (4, .int (cnt (fun k => wdS (oN O) k = 0) (sN (oN O)))), (5, .int (cnt (fun j => sA (oN O) 3 j ≠ -1) (sN (oN O)))), (6, .int (cnt (fun j => shr (nI j) = 9) (sN (oN O)))), (7, .int 1), (8, .int (sm (fun c => allN (oN O) (nI c)) 6)), (9, .int (sm (fun c => deadN (oN O) (nI c)) 6))] 606 [] := by
      refine x_iload C 7 dL_isWhole_606 rfl ?_
      refine x_if_eq C 701 dL_isWhole_608 (by decide) (fun h => absurd h (by decide)) (fun _ => ?_)
      refine x_iload C 8 dL_isWhole_611 rfl ?_
      refine x_aload_n C 0 dL_isWhole_613 rfl rfl ?_
      refine x_iconst (v := 1) C dL_isWhole_614 (by decide) ?_
      refine x_oRO C ([.int 1]) ([.int (sm (fun c => allN (oN O) (nI c)) 6)]) (a := a) (O := O) (na := 1) gL_isWhole_X6_count rfl (by decide +kernel) rfl (oX6_count (xl cx) (xG cx) a O 1 (S := oN O) rfl hok) rfl rfl rfl ⟨by decide, by decide⟩ (Nat.le_of_ble_eq_true rfl) ⟨by decide, by decide⟩ dL_isWhole_615 ?_
      refine x_top (y := nI (sN (oN O))) (cnt_1 _ _ _) ?_
      refine x_icmp_ne C 701 dL_isWhole_618 (by decide) (fun c => absurd (wb_A hI) c) (fun _ => ?_)
      refine x_iload C 9 dL_isWhole_621 rfl ?_
      refine x_iload_n C 3 dL_isWhole_623 rfl rfl ?_
      refine x_icmp_ne C 701 dL_isWhole_624 (by decide) (fun c => absurd (wb_D hI) c) (fun _ => ?_)
      refine x_iload_n C 1 dL_isWhole_627 rfl rfl ?_
      refine x_aload_n C 0 dL_isWhole_628 rfl rfl ?_
      refine x_bipush (v := 6) C dL_isWhole_629 (by decide) ?_
      refine x_oRO C ([.int 6]) ([.int (sm (sA (oN O) 6) (sN (oN O)))]) (a := a) (O := O) (na := 1) gL_isWhole_X6_count rfl (by decide +kernel) rfl (oX6_count (xl cx) (xG cx) a O 6 (S := oN O) rfl hok) rfl rfl rfl ⟨by decide, by decide⟩ (Nat.le_of_ble_eq_true rfl) ⟨by decide, by decide⟩ dL_isWhole_631 ?_
      refine x_icmp_ne C 701 dL_isWhole_634 (by decide) (fun c => absurd (rfl) c) (fun _ => ?_)
      refine x_iload_n C 2 dL_isWhole_637 rfl rfl ?_
      refine x_aload_n C 0 dL_isWhole_638 rfl rfl ?_
      refine x_bipush (v := 7) C dL_isWhole_639 (by decide) ?_
      refine x_oRO C ([.int 7]) ([.int (sm (sA (oN O) 5) (sN (oN O)))]) (a := a) (O := O) (na := 1) gL_isWhole_X6_count rfl (by decide +kernel) rfl (oX6_count (xl cx) (xG cx) a O 7 (S := oN O) rfl hok) rfl rfl rfl ⟨by decide, by decide⟩ (Nat.le_of_ble_eq_true rfl) ⟨by decide, by decide⟩ dL_isWhole_641 ?_
      refine x_icmp_ne C 701 dL_isWhole_644 (by decide) (fun c => absurd (rfl) c) (fun _ => ?_)
      refine x_iload_n C 3 dL_isWhole_647 rfl rfl ?_
      refine x_aload_n C 0 dL_isWhole_648 rfl rfl ?_
      refine x_iconst (v := 4) C dL_isWhole_649 (by decide) ?_
      refine x_oRO C ([.int 4]) ([.int (cnt (fun j => sA (oN O) 7 j ≠ -1) (sN (oN O)))]) (a := a) (O := O) (na := 1) gL_isWhole_X6_count rfl (by decide +kernel) rfl (oX6_count (xl cx) (xG cx) a O 4 (S := oN O) rfl hok) rfl rfl rfl ⟨by decide, by decide⟩ (Nat.le_of_ble_eq_true rfl) ⟨by decide, by decide⟩ dL_isWhole_650 ?_
      refine x_icmp_ne C 701 dL_isWhole_653 (by decide) (fun c => absurd (rfl) c) (fun _ => ?_)
      refine x_iload C 5 dL_isWhole_656 rfl ?_
      refine x_aload_n C 0 dL_isWhole_658 rfl rfl ?_
      refine x_iconst (v := 2) C dL_isWhole_659 (by decide) ?_
      refine x_oRO C ([.int 2]) ([.int (cnt (fun j => sA (oN O) 3 j ≠ -1) (sN (oN O)))]) (a := a) (O := O) (na := 1) gL_isWhole_X6_count rfl (by decide +kernel) rfl (oX6_count (xl cx) (xG cx) a O 2 (S := oN O) rfl hok) rfl rfl rfl ⟨by decide, by decide⟩ (Nat.le_of_ble_eq_true rfl) ⟨by decide, by decide⟩ dL_isWhole_660 ?_
      refine x_icmp_ne C 701 dL_isWhole_663 (by decide) (fun c => absurd (rfl) c) (fun _ => ?_)
      refine x_iload C 6 dL_isWhole_666 rfl ?_
      refine x_aload_n C 0 dL_isWhole_668 rfl rfl ?_
      refine x_iconst (v := 5) C dL_isWhole_669 (by decide) ?_
      refine x_oRO C ([.int 5]) ([.int (cnt (fun j => shr (nI j) = 9) (sN (oN O)))]) (a := a) (O := O) (na := 1) gL_isWhole_X6_count rfl (by decide +kernel) rfl (oX6_count (xl cx) (xG cx) a O 5 (S := oN O) rfl hok) rfl rfl rfl ⟨by decide, by decide⟩ (Nat.le_of_ble_eq_true rfl) ⟨by decide, by decide⟩ dL_isWhole_670 ?_
      refine x_icmp_ne C 701 dL_isWhole_673 (by decide) (fun c => absurd (rfl) c) (fun _ => ?_)
      refine x_iload C 4 dL_isWhole_676 rfl ?_
      refine x_aload_n C 0 dL_isWhole_678 rfl rfl ?_
      refine x_iconst (v := 3) C dL_isWhole_679 (by decide) ?_
      refine x_oRO C ([.int 3]) ([.int (cnt (fun k => wdS (oN O) k = 0) (sN (oN O)))]) (a := a) (O := O) (na := 1) gL_isWhole_X6_count rfl (by decide +kernel) rfl (oX6_count (xl cx) (xG cx) a O 3 (S := oN O) rfl hok) rfl rfl rfl ⟨by decide, by decide⟩ (Nat.le_of_ble_eq_true rfl) ⟨by decide, by decide⟩ dL_isWhole_680 ?_
      refine x_icmp_ne C 701 dL_isWhole_683 (by decide) (fun c => absurd (rfl) c) (fun _ => ?_)
      refine x_aload_n C 0 dL_isWhole_686 rfl rfl ?_
      refine x_iload_n C 3 dL_isWhole_687 rfl rfl ?_
      refine x_oRO C ([.int (cnt (fun j => sA (oN O) 7 j ≠ -1) (sN (oN O)))]) ([]) (a := a) (O := O) (na := 1) gL_isWhole_X6_ended rfl (by decide +kernel) rfl (oX6_ended (xl cx) (xG cx) a O (cnt (fun j => sA (oN O) 7 j ≠ -1) (sN (oN O))) (S := oN O) rfl hok) rfl rfl rfl ⟨by decide, by decide⟩ (Nat.le_of_ble_eq_true rfl) ⟨by decide, by decide⟩ dL_isWhole_688 ?_
      refine x_sipush (v := (-1005)) C dL_isWhole_691 (by decide) ?_
      refine x_icmp_ne C 701 dL_isWhole_694 (by decide) (fun c => absurd (end_no hI) c) (fun _ => ?_)
      refine x_iconst (v := 1) C dL_isWhole_697 (by decide) ?_
      refine x_goto (tgt := 702) C dL_isWhole_698 (by decide) ?_
      refine x_istore C [(7, .int 1), (0, .ref (aaX a)), (1, .int (sm (sA (oN O) 6) (sN (oN O)))), (2, .int (sm (sA (oN O) 5) (sN (oN O)))), (3, .int (cnt (fun j => sA (oN O) 7 j ≠ -1) (sN (oN O)))), (4, .int (cnt (fun k => wdS (oN O) k = 0) (sN (oN O)))), (5, .int (cnt (fun j => sA (oN O) 3 j ≠ -1) (sN (oN O)))), (6, .int (cnt (fun j => shr (nI j) = 9) (sN (oN O)))), (8, .int (sm (fun c => allN (oN O) (nI c)) 6)), (9, .int (sm (fun c => deadN (oN O) (nI c)) 6))] dL_isWhole_702 (by decide) rfl ?_
      refine x_iconst (v := 1) C dL_isWhole_704 (by decide) ?_
      refine x_istore C [(10, .int 1), (7, .int 1), (0, .ref (aaX a)), (1, .int (sm (sA (oN O) 6) (sN (oN O)))), (2, .int (sm (sA (oN O) 5) (sN (oN O)))), (3, .int (cnt (fun j => sA (oN O) 7 j ≠ -1) (sN (oN O)))), (4, .int (cnt (fun k => wdS (oN O) k = 0) (sN (oN O)))), (5, .int (cnt (fun j => sA (oN O) 3 j ≠ -1) (sN (oN O)))), (6, .int (cnt (fun j => shr (nI j) = 9) (sN (oN O)))), (8, .int (sm (fun c => allN (oN O) (nI c)) 6)), (9, .int (sm (fun c => deadN (oN O) (nI c)) 6))] dL_isWhole_705 (by decide) rfl ?_
      have ex_707 : X cx (0, 0) (obW (xG cx) a O) [(0, .ref (aaX a)), (5, .int (cnt (fun j => sA (oN O) 3 j ≠ -1) (sN (oN O)))), (7, .int 1)] 794 [] := by
        refine x_iload C 2 dL_isWhole_794 rfl ?_
        refine x_if_eq C 828 dL_isWhole_796 (by decide) (fun h => absurd h (by decide)) (fun _ => ?_)
        refine x_aload_n C 0 dL_isWhole_799 rfl rfl ?_
        refine x_iconst (v := 0) C dL_isWhole_800 (by decide) ?_
        refine x_iconst (v := 1) C dL_isWhole_801 (by decide) ?_
        refine x_oRO C ([.int 0, .int 1]) ([]) (a := a) (O := O) (na := 2) gL_isWhole_X6_rack rfl (by decide +kernel) rfl (oX6_rack (xl cx) (xG cx) a O 0 1 (S := oN O) rfl hok) rfl rfl rfl ⟨by decide, by decide⟩ (Nat.le_of_ble_eq_true rfl) ⟨by decide, by decide⟩ dL_isWhole_802 ?_
        refine x_aload_n C 0 dL_isWhole_805 rfl rfl ?_
        refine x_iconst (v := 1) C dL_isWhole_806 (by decide) ?_
        refine x_iconst (v := 1) C dL_isWhole_807 (by decide) ?_
        refine x_oRO C ([.int 1, .int 1]) ([.int (trS (oN O) 0 1)]) (a := a) (O := O) (na := 2) gL_isWhole_X6_rack rfl (by decide +kernel) rfl (oX6_rack (xl cx) (xG cx) a O 1 1 (S := oN O) rfl hok) rfl rfl rfl ⟨by decide, by decide⟩ (Nat.le_of_ble_eq_true rfl) ⟨by decide, by decide⟩ dL_isWhole_808 ?_
        refine x_iadd C (rfl) dL_isWhole_811 ?_
        refine x_aload_n C 0 dL_isWhole_812 rfl rfl ?_
        refine x_iconst (v := 2) C dL_isWhole_813 (by decide) ?_
        refine x_iconst (v := 1) C dL_isWhole_814 (by decide) ?_
        refine x_oRO C ([.int 2, .int 1]) ([.int ((trS (oN O) 0 1) + (trS (oN O) 1 1))]) (a := a) (O := O) (na := 2) gL_isWhole_X6_rack rfl (by decide +kernel) rfl (oX6_rack (xl cx) (xG cx) a O 2 1 (S := oN O) rfl hok) rfl rfl rfl ⟨by decide, by decide⟩ (Nat.le_of_ble_eq_true rfl) ⟨by decide, by decide⟩ dL_isWhole_815 ?_
        refine x_iadd C (rfl) dL_isWhole_818 ?_
        refine x_iload C 1 dL_isWhole_819 rfl ?_
        refine x_icmp_ne C 828 dL_isWhole_821 (by decide) (fun c => absurd (wr_all hI) c) (fun _ => ?_)
        refine x_iconst (v := 1) C dL_isWhole_824 (by decide) ?_
        refine x_goto (tgt := 829) C dL_isWhole_825 (by decide) ?_
        exact x_zret1 C E dL_isWhole_829 (rfl)
      have lp_707 : ∀ (d i : Nat), (1 ≤ i ∧ i + d = max (dN (oN O)) 1) → X cx (0, 0) (obW (xG cx) a O) [(0, .ref (aaX a)), (3, .int (cnt (fun j => sA (oN O) 7 j ≠ -1) (sN (oN O)))), (5, .int (cnt (fun j => sA (oN O) 3 j ≠ -1) (sN (oN O)))), (7, .int 1), (10, .int (nI i))] 707 [] := by
        intro d
        induction d with
        | zero =>
          intro i hi
          refine x_iload C 4 dL_isWhole_707 rfl ?_
          refine x_iload_n C 1 dL_isWhole_709 rfl rfl ?_
          refine x_top (y := nI (dN (oN O))) (dN_cnt _) ?_
          refine x_icmp_ge C 794 dL_isWhole_710 (by decide) (fun _ => ?_) (fun c => absurd (nI_le (a := dN (oN O)) (b := i) (by omega) (by omega)) c)
          refine x_lv [(0, .ref (aaX a)), (5, .int (cnt (fun j => sA (oN O) 3 j ≠ -1) (sN (oN O)))), (7, .int 1)] [0, 2, 3] rfl ?_
          exact ex_707
        | succ d ih =>
          intro i hi
          have hd2 : i < dN (oN O) := by omega
          have eo := end_or hI (r := i - 1) (by omega)
          rw [show i - 1 + 1 = i by omega] at eo
          refine x_iload C 4 dL_isWhole_707 rfl ?_
          refine x_iload_n C 1 dL_isWhole_709 rfl rfl ?_
          refine x_top (y := nI (dN (oN O))) (dN_cnt _) ?_
          refine x_icmp_ge C 794 dL_isWhole_710 (by decide) (fun c => absurd c (nI_ge (a := i) (b := dN (oN O)) (by omega) (by omega))) (fun _ => ?_)
          refine x_iload C 3 dL_isWhole_713 rfl ?_
          refine x_if_eq C 794 dL_isWhole_715 (by decide) (fun h => absurd h (by decide)) (fun _ => ?_)
          refine x_aload_n C 0 dL_isWhole_718 rfl rfl ?_
          refine x_iload C 4 dL_isWhole_719 rfl ?_
          refine x_iconst (v := 1) C dL_isWhole_721 (by decide) ?_
          refine x_isub C (rfl) dL_isWhole_722 ?_
          refine x_top (y := nI (i - 1)) (pk_sub (a := i) (b := 1) (by omega)) ?_
          refine x_oRO C ([.int (nI (i - 1))]) ([]) (a := a) (O := O) (na := 1) gL_isWhole_X6_ended rfl (by decide +kernel) rfl (oX6_ended (xl cx) (xG cx) a O (nI (i - 1)) (S := oN O) rfl hok) rfl rfl rfl ⟨by decide, by decide⟩ (Nat.le_of_ble_eq_true rfl) ⟨by decide, by decide⟩ dL_isWhole_723 ?_
          refine x_istore C [(11, .int (endS (oN O) (nI (i - 1)))), (0, .ref (aaX a)), (3, .int (cnt (fun j => sA (oN O) 7 j ≠ -1) (sN (oN O)))), (5, .int (cnt (fun j => sA (oN O) 3 j ≠ -1) (sN (oN O)))), (7, .int 1), (10, .int (nI i))] dL_isWhole_726 (by decide) rfl ?_
          refine x_aload_n C 1 dL_isWhole_728 rfl rfl ?_
          refine x_iload C 5 dL_isWhole_729 rfl ?_
          refine x_oRO C ([.int (nI i)]) ([]) (a := a) (O := O) (na := 1) gL_isWhole_X6_ended rfl (by decide +kernel) rfl (oX6_ended (xl cx) (xG cx) a O (nI i) (S := oN O) rfl hok) rfl rfl rfl ⟨by decide, by decide⟩ (Nat.le_of_ble_eq_true rfl) ⟨by decide, by decide⟩ dL_isWhole_731 ?_
          refine x_istore C [(12, .int (endS (oN O) (nI i))), (11, .int (endS (oN O) (nI (i - 1)))), (0, .ref (aaX a)), (3, .int (cnt (fun j => sA (oN O) 7 j ≠ -1) (sN (oN O)))), (5, .int (cnt (fun j => sA (oN O) 3 j ≠ -1) (sN (oN O)))), (7, .int 1), (10, .int (nI i))] dL_isWhole_734 (by decide) rfl ?_
          refine x_aload_n C 2 dL_isWhole_736 rfl rfl ?_
          refine x_iload C 1 dL_isWhole_737 rfl ?_
          refine x_bipush (v := 8) C dL_isWhole_739 (by decide) ?_
          refine x_oRO C ([.int (endS (oN O) (nI (i - 1))), .int 8]) ([]) (a := a) (O := O) (na := 2) gL_isWhole_X6_lamp rfl (by decide +kernel) rfl (oX6_lamp (xl cx) (xG cx) a O (endS (oN O) (nI (i - 1))) 8 (S := oN O) rfl hok) rfl rfl rfl ⟨by decide, by decide⟩ (Nat.le_of_ble_eq_true rfl) ⟨by decide, by decide⟩ dL_isWhole_741 ?_
          refine x_aload_n C 2 dL_isWhole_744 rfl rfl ?_
          refine x_iload C 0 dL_isWhole_745 rfl ?_
          refine x_bipush (v := 8) C dL_isWhole_747 (by decide) ?_
          refine x_oRO C ([.int (endS (oN O) (nI i)), .int 8]) ([.int (tlS (oN O) (endS (oN O) (nI (i - 1))) 8)]) (a := a) (O := O) (na := 2) gL_isWhole_X6_lamp rfl (by decide +kernel) rfl (oX6_lamp (xl cx) (xG cx) a O (endS (oN O) (nI i)) 8 (S := oN O) rfl hok) rfl rfl rfl ⟨by decide, by decide⟩ (Nat.le_of_ble_eq_true rfl) ⟨by decide, by decide⟩ dL_isWhole_749 ?_
          have j_781 : X cx (0, 0) (obW (xG cx) a O) [(12, .int (endS (oN O) (nI i))), (11, .int (endS (oN O) (nI (i - 1)))), (0, .ref (aaX a)), (3, .int (cnt (fun j => sA (oN O) 7 j ≠ -1) (sN (oN O)))), (5, .int (cnt (fun j => sA (oN O) 3 j ≠ -1) (sN (oN O)))), (7, .int 1), (10, .int (nI i))] 781 [] := by
            refine x_iconst (v := 1) C dL_isWhole_781 (by decide) ?_
            refine x_goto (tgt := 786) C dL_isWhole_782 (by decide) ?_
            refine x_istore C [(7, .int 1), (12, .int (endS (oN O) (nI i))), (11, .int (endS (oN O) (nI (i - 1)))), (0, .ref (aaX a)), (3, .int (cnt (fun j => sA (oN O) 7 j ≠ -1) (sN (oN O)))), (5, .int (cnt (fun j => sA (oN O) 3 j ≠ -1) (sN (oN O)))), (10, .int (nI i))] dL_isWhole_786 (by decide) rfl ?_
            refine x_iinc C 6 [(10, .int (nI (i + 1))), (7, .int 1), (12, .int (endS (oN O) (nI i))), (11, .int (endS (oN O) (nI (i - 1)))), (0, .ref (aaX a)), (3, .int (cnt (fun j => sA (oN O) 7 j ≠ -1) (sN (oN O)))), (5, .int (cnt (fun j => sA (oN O) 3 j ≠ -1) (sN (oN O))))] dL_isWhole_788 rfl (inc1 i) (by decide) rfl ?_
            refine x_goto (tgt := 707) C dL_isWhole_791 (by decide) ?_
            refine x_lv [(0, .ref (aaX a)), (3, .int (cnt (fun j => sA (oN O) 7 j ≠ -1) (sN (oN O)))), (5, .int (cnt (fun j => sA (oN O) 3 j ≠ -1) (sN (oN O)))), (7, .int 1), (10, .int (nI (i + 1)))] [4, 5, 6, 1, 0] rfl ?_
            exact ih (i + 1) (by omega)
          refine x_icmp_lt C 781 dL_isWhole_752 (by decide) (fun c_752 => ?_) (fun c_752 => ?_)
          ·
            exact j_781
          ·
            refine x_aload_n C 2 dL_isWhole_755 rfl rfl ?_
            refine x_iload C 1 dL_isWhole_756 rfl ?_
            refine x_bipush (v := 8) C dL_isWhole_758 (by decide) ?_
            refine x_oRO C ([.int (endS (oN O) (nI (i - 1))), .int 8]) ([]) (a := a) (O := O) (na := 2) gL_isWhole_X6_lamp rfl (by decide +kernel) rfl (oX6_lamp (xl cx) (xG cx) a O (endS (oN O) (nI (i - 1))) 8 (S := oN O) rfl hok) rfl rfl rfl ⟨by decide, by decide⟩ (Nat.le_of_ble_eq_true rfl) ⟨by decide, by decide⟩ dL_isWhole_760 ?_
            refine x_aload_n C 2 dL_isWhole_763 rfl rfl ?_
            refine x_iload C 0 dL_isWhole_764 rfl ?_
            refine x_bipush (v := 8) C dL_isWhole_766 (by decide) ?_
            refine x_oRO C ([.int (endS (oN O) (nI i)), .int 8]) ([.int (tlS (oN O) (endS (oN O) (nI (i - 1))) 8)]) (a := a) (O := O) (na := 2) gL_isWhole_X6_lamp rfl (by decide +kernel) rfl (oX6_lamp (xl cx) (xG cx) a O (endS (oN O) (nI i)) 8 (S := oN O) rfl hok) rfl rfl rfl ⟨by decide, by decide⟩ (Nat.le_of_ble_eq_true rfl) ⟨by decide, by decide⟩ dL_isWhole_768 ?_
            refine x_icmp_ne C 785 dL_isWhole_771 (by decide) (fun c => absurd ((eo.resolve_left c_752).1) c) (fun _ => ?_)
            refine x_iload C 1 dL_isWhole_774 rfl ?_
            refine x_iload C 0 dL_isWhole_776 rfl ?_
            refine x_icmp_ge C 785 dL_isWhole_778 (by decide) (fun c => absurd c (Int32.not_le.mpr (eo.resolve_left c_752).2)) (fun _ => ?_)
            exact j_781
      refine x_lv [(0, .ref (aaX a)), (3, .int (cnt (fun j => sA (oN O) 7 j ≠ -1) (sN (oN O)))), (5, .int (cnt (fun j => sA (oN O) 3 j ≠ -1) (sN (oN O)))), (7, .int 1), (10, .int (nI 1))] [2, 5, 7, 1, 0] rfl ?_
      exact lp_707 (max (dN (oN O)) 1 - 1) 1 (by omega)
    have lp_408 : ∀ (d i : Nat), i + d = 6 → X cx (0, 0) (obW (xG cx) a O) [(0, .ref (aaX a)), (1, .int (sm (sA (oN O) 6) (sN (oN O)))), (2, .int (sm (sA (oN O) 5) (sN (oN O)))), (3, .int (cnt (fun j => sA (oN O) 7 j ≠ -1) (sN (oN O)))), (4, .int (cnt (fun k => wdS (oN O) k = 0) (sN (oN O)))), (5, .int (cnt (fun j => sA (oN O) 3 j ≠ -1) (sN (oN O)))), (6, .int (cnt (fun j => shr (nI j) = 9) (sN (oN O)))), (7, .int 1), (8, .int (sm (fun c => allN (oN O) (nI c)) i)), (9, .int (sm (fun c => deadN (oN O) (nI c)) i)), (10, .int (nI i))] 408 [] := by
      intro d
      induction d with
      | zero =>
        intro i hi
        obtain rfl : i = 6 := by omega
        refine x_iload C 10 dL_isWhole_408 rfl ?_
        refine x_bipush (v := 6) C dL_isWhole_410 (by decide) ?_
        refine x_icmp_ge C 606 dL_isWhole_412 (by decide) (fun _ => ?_) (fun c => absurd (nI_le (a := 6) (b := 6) (by omega) (by omega)) c)
        refine x_lv [(0, .ref (aaX a)), (1, .int (sm (sA (oN O) 6) (sN (oN O)))), (2, .int (sm (sA (oN O) 5) (sN (oN O)))), (3, .int (cnt (fun j => sA (oN O) 7 j ≠ -1) (sN (oN O)))), (4, .int (cnt (fun k => wdS (oN O) k = 0) (sN (oN O)))), (5, .int (cnt (fun j => sA (oN O) 3 j ≠ -1) (sN (oN O)))), (6, .int (cnt (fun j => shr (nI j) = 9) (sN (oN O)))), (7, .int 1), (8, .int (sm (fun c => allN (oN O) (nI c)) 6)), (9, .int (sm (fun c => deadN (oN O) (nI c)) 6))] [0, 1, 2, 3, 4, 5, 6, 7, 8, 9] rfl ?_
        exact ex_408
      | succ d ih =>
        intro i hi
        have hb : i < 6 := by omega
        refine x_iload C 10 dL_isWhole_408 rfl ?_
        refine x_bipush (v := 6) C dL_isWhole_410 (by decide) ?_
        refine x_icmp_ge C 606 dL_isWhole_412 (by decide) (fun c => absurd c (nI_ge (a := i) (b := 6) (by omega) (by omega))) (fun _ => ?_)
        refine x_iload C 7 dL_isWhole_415 rfl ?_
        refine x_if_eq C 606 dL_isWhole_417 (by decide) (fun h => absurd h (by decide)) (fun _ => ?_)
        refine x_aload_n C 0 dL_isWhole_420 rfl rfl ?_
        refine x_iload C 10 dL_isWhole_421 rfl ?_
        refine x_iconst (v := 2) C dL_isWhole_423 (by decide) ?_
        refine x_oRO C ([.int (nI i), .int 2]) ([]) (a := a) (O := O) (na := 2) gL_isWhole_X6_batch rfl (by decide +kernel) rfl (oX6_batch (xl cx) (xG cx) a O (nI i) 2 (S := oN O) rfl hok) rfl rfl rfl ⟨by decide, by decide⟩ (Nat.le_of_ble_eq_true rfl) ⟨by decide, by decide⟩ dL_isWhole_424 ?_
        refine x_top (y := allN (oN O) (nI i)) (tb_w hb 2) ?_
        refine x_istore C [(11, .int (allN (oN O) (nI i))), (0, .ref (aaX a)), (1, .int (sm (sA (oN O) 6) (sN (oN O)))), (2, .int (sm (sA (oN O) 5) (sN (oN O)))), (3, .int (cnt (fun j => sA (oN O) 7 j ≠ -1) (sN (oN O)))), (4, .int (cnt (fun k => wdS (oN O) k = 0) (sN (oN O)))), (5, .int (cnt (fun j => sA (oN O) 3 j ≠ -1) (sN (oN O)))), (6, .int (cnt (fun j => shr (nI j) = 9) (sN (oN O)))), (7, .int 1), (8, .int (sm (fun c => allN (oN O) (nI c)) i)), (9, .int (sm (fun c => deadN (oN O) (nI c)) i)), (10, .int (nI i))] dL_isWhole_427 (by decide) rfl ?_
        refine x_aload_n C 1 dL_isWhole_429 rfl rfl ?_
        refine x_iload C 11 dL_isWhole_430 rfl ?_
        refine x_iconst (v := 3) C dL_isWhole_432 (by decide) ?_
        refine x_oRO C ([.int (nI i), .int 3]) ([]) (a := a) (O := O) (na := 2) gL_isWhole_X6_batch rfl (by decide +kernel) rfl (oX6_batch (xl cx) (xG cx) a O (nI i) 3 (S := oN O) rfl hok) rfl rfl rfl ⟨by decide, by decide⟩ (Nat.le_of_ble_eq_true rfl) ⟨by decide, by decide⟩ dL_isWhole_433 ?_
        refine x_top (y := deadN (oN O) (nI i)) (tb_w hb 3) ?_
        refine x_istore C [(12, .int (deadN (oN O) (nI i))), (11, .int (allN (oN O) (nI i))), (0, .ref (aaX a)), (1, .int (sm (sA (oN O) 6) (sN (oN O)))), (2, .int (sm (sA (oN O) 5) (sN (oN O)))), (3, .int (cnt (fun j => sA (oN O) 7 j ≠ -1) (sN (oN O)))), (4, .int (cnt (fun k => wdS (oN O) k = 0) (sN (oN O)))), (5, .int (cnt (fun j => sA (oN O) 3 j ≠ -1) (sN (oN O)))), (6, .int (cnt (fun j => shr (nI j) = 9) (sN (oN O)))), (7, .int 1), (8, .int (sm (fun c => allN (oN O) (nI c)) i)), (9, .int (sm (fun c => deadN (oN O) (nI c)) i)), (10, .int (nI i))] dL_isWhole_436 (by decide) rfl ?_
        refine x_aload_n C 2 dL_isWhole_438 rfl rfl ?_
        refine x_iload C 12 dL_isWhole_439 rfl ?_
        refine x_iconst (v := 5) C dL_isWhole_441 (by decide) ?_
        refine x_oRO C ([.int (nI i), .int 5]) ([]) (a := a) (O := O) (na := 2) gL_isWhole_X6_batch rfl (by decide +kernel) rfl (oX6_batch (xl cx) (xG cx) a O (nI i) 5 (S := oN O) rfl hok) rfl rfl rfl ⟨by decide, by decide⟩ (Nat.le_of_ble_eq_true rfl) ⟨by decide, by decide⟩ dL_isWhole_442 ?_
        refine x_top (y := midN (oN O) (nI i)) (tb_w hb 5) ?_
        refine x_istore C [(13, .int (midN (oN O) (nI i))), (12, .int (deadN (oN O) (nI i))), (11, .int (allN (oN O) (nI i))), (0, .ref (aaX a)), (1, .int (sm (sA (oN O) 6) (sN (oN O)))), (2, .int (sm (sA (oN O) 5) (sN (oN O)))), (3, .int (cnt (fun j => sA (oN O) 7 j ≠ -1) (sN (oN O)))), (4, .int (cnt (fun k => wdS (oN O) k = 0) (sN (oN O)))), (5, .int (cnt (fun j => sA (oN O) 3 j ≠ -1) (sN (oN O)))), (6, .int (cnt (fun j => shr (nI j) = 9) (sN (oN O)))), (7, .int 1), (8, .int (sm (fun c => allN (oN O) (nI c)) i)), (9, .int (sm (fun c => deadN (oN O) (nI c)) i)), (10, .int (nI i))] dL_isWhole_445 (by decide) rfl ?_
        refine x_iload C 11 dL_isWhole_447 rfl ?_
        refine x_iload C 2 dL_isWhole_449 rfl ?_
        refine x_iadd C (rfl) dL_isWhole_451 ?_
        refine x_istore C [(8, .int ((sm (fun c => allN (oN O) (nI c)) i) + (allN (oN O) (nI i)))), (13, .int (midN (oN O) (nI i))), (12, .int (deadN (oN O) (nI i))), (11, .int (allN (oN O) (nI i))), (0, .ref (aaX a)), (1, .int (sm (sA (oN O) 6) (sN (oN O)))), (2, .int (sm (sA (oN O) 5) (sN (oN O)))), (3, .int (cnt (fun j => sA (oN O) 7 j ≠ -1) (sN (oN O)))), (4, .int (cnt (fun k => wdS (oN O) k = 0) (sN (oN O)))), (5, .int (cnt (fun j => sA (oN O) 3 j ≠ -1) (sN (oN O)))), (6, .int (cnt (fun j => shr (nI j) = 9) (sN (oN O)))), (7, .int 1), (9, .int (sm (fun c => deadN (oN O) (nI c)) i)), (10, .int (nI i))] dL_isWhole_452 (by decide) rfl ?_
        refine x_iload C 12 dL_isWhole_454 rfl ?_
        refine x_iload C 2 dL_isWhole_456 rfl ?_
        refine x_iadd C (rfl) dL_isWhole_458 ?_
        refine x_istore C [(9, .int ((sm (fun c => deadN (oN O) (nI c)) i) + (deadN (oN O) (nI i)))), (8, .int ((sm (fun c => allN (oN O) (nI c)) i) + (allN (oN O) (nI i)))), (13, .int (midN (oN O) (nI i))), (12, .int (deadN (oN O) (nI i))), (11, .int (allN (oN O) (nI i))), (0, .ref (aaX a)), (1, .int (sm (sA (oN O) 6) (sN (oN O)))), (2, .int (sm (sA (oN O) 5) (sN (oN O)))), (3, .int (cnt (fun j => sA (oN O) 7 j ≠ -1) (sN (oN O)))), (4, .int (cnt (fun k => wdS (oN O) k = 0) (sN (oN O)))), (5, .int (cnt (fun j => sA (oN O) 3 j ≠ -1) (sN (oN O)))), (6, .int (cnt (fun j => shr (nI j) = 9) (sN (oN O)))), (7, .int 1), (10, .int (nI i))] dL_isWhole_459 (by decide) rfl ?_
        refine x_iload C 3 dL_isWhole_461 rfl ?_
        refine x_iload C 4 dL_isWhole_463 rfl ?_
        refine x_icmp_gt C 597 dL_isWhole_465 (by decide) (fun c => absurd c (wb_1 hn _)) (fun _ => ?_)
        refine x_aload_n C 5 dL_isWhole_468 rfl rfl ?_
        refine x_iload C 13 dL_isWhole_469 rfl ?_
        refine x_iconst (v := 4) C dL_isWhole_471 (by decide) ?_
        refine x_oRO C ([.int (nI i), .int 4]) ([]) (a := a) (O := O) (na := 2) gL_isWhole_X6_batch rfl (by decide +kernel) rfl (oX6_batch (xl cx) (xG cx) a O (nI i) 4 (S := oN O) rfl hok) rfl rfl rfl ⟨by decide, by decide⟩ (Nat.le_of_ble_eq_true rfl) ⟨by decide, by decide⟩ dL_isWhole_472 ?_
        refine x_top (y := erlN (oN O) (nI i) (sA (oN O) 0 i / 2)) (tb_w hb 4) ?_
        refine x_iload C 3 dL_isWhole_475 rfl ?_
        refine x_icmp_gt C 597 dL_isWhole_477 (by decide) (fun c => absurd c (wb_2 hn _ _)) (fun _ => ?_)
        refine x_aload_n C 5 dL_isWhole_480 rfl rfl ?_
        refine x_iload C 13 dL_isWhole_481 rfl ?_
        refine x_bipush (v := 6) C dL_isWhole_483 (by decide) ?_
        refine x_oRO C ([.int (nI i), .int 6]) ([]) (a := a) (O := O) (na := 2) gL_isWhole_X6_batch rfl (by decide +kernel) rfl (oX6_batch (xl cx) (xG cx) a O (nI i) 6 (S := oN O) rfl hok) rfl rfl rfl ⟨by decide, by decide⟩ (Nat.le_of_ble_eq_true rfl) ⟨by decide, by decide⟩ dL_isWhole_485 ?_
        refine x_iconst (v := 1) C dL_isWhole_488 (by decide) ?_
        have j_497 : ∀ v0 : Int32, v0 = (b2i ((tbS (oN O) (nI i) 6) = 1)) → X cx (0, 0) (obW (xG cx) a O) [(9, .int ((sm (fun c => deadN (oN O) (nI c)) i) + (deadN (oN O) (nI i)))), (8, .int ((sm (fun c => allN (oN O) (nI c)) i) + (allN (oN O) (nI i)))), (13, .int (midN (oN O) (nI i))), (12, .int (deadN (oN O) (nI i))), (11, .int (allN (oN O) (nI i))), (0, .ref (aaX a)), (1, .int (sm (sA (oN O) 6) (sN (oN O)))), (2, .int (sm (sA (oN O) 5) (sN (oN O)))), (3, .int (cnt (fun j => sA (oN O) 7 j ≠ -1) (sN (oN O)))), (4, .int (cnt (fun k => wdS (oN O) k = 0) (sN (oN O)))), (5, .int (cnt (fun j => sA (oN O) 3 j ≠ -1) (sN (oN O)))), (6, .int (cnt (fun j => shr (nI j) = 9) (sN (oN O)))), (7, .int 1), (10, .int (nI i))] 497 [.int v0] := by
          intro v0 hv0
          subst hv0
          refine x_iconst (v := 2) C dL_isWhole_497 (by decide) ?_
          refine x_aload_n C 5 dL_isWhole_498 rfl rfl ?_
          refine x_iload C 13 dL_isWhole_499 rfl ?_
          refine x_iconst (v := 4) C dL_isWhole_501 (by decide) ?_
          refine x_oRO C ([.int (nI i), .int 4]) ([.int 2, .int (b2i ((tbS (oN O) (nI i) 6) = 1))]) (a := a) (O := O) (na := 2) gL_isWhole_X6_batch rfl (by decide +kernel) rfl (oX6_batch (xl cx) (xG cx) a O (nI i) 4 (S := oN O) rfl hok) rfl rfl rfl ⟨by decide, by decide⟩ (Nat.le_of_ble_eq_true rfl) ⟨by decide, by decide⟩ dL_isWhole_502 ?_
          refine x_top (y := erlN (oN O) (nI i) (sA (oN O) 0 i / 2)) (tb_w hb 4) ?_
          refine x_imul C (rfl) dL_isWhole_505 ?_
          refine x_iload C 3 dL_isWhole_506 rfl ?_
          have j_516 : ∀ v0 : Int32, v0 = (b2i (¬ ((2 * (erlN (oN O) (nI i) (sA (oN O) 0 i / 2))) ≤ (deadN (oN O) (nI i))))) → X cx (0, 0) (obW (xG cx) a O) [(9, .int ((sm (fun c => deadN (oN O) (nI c)) i) + (deadN (oN O) (nI i)))), (8, .int ((sm (fun c => allN (oN O) (nI c)) i) + (allN (oN O) (nI i)))), (13, .int (midN (oN O) (nI i))), (12, .int (deadN (oN O) (nI i))), (11, .int (allN (oN O) (nI i))), (0, .ref (aaX a)), (1, .int (sm (sA (oN O) 6) (sN (oN O)))), (2, .int (sm (sA (oN O) 5) (sN (oN O)))), (3, .int (cnt (fun j => sA (oN O) 7 j ≠ -1) (sN (oN O)))), (4, .int (cnt (fun k => wdS (oN O) k = 0) (sN (oN O)))), (5, .int (cnt (fun j => sA (oN O) 3 j ≠ -1) (sN (oN O)))), (6, .int (cnt (fun j => shr (nI j) = 9) (sN (oN O)))), (7, .int 1), (10, .int (nI i))] 516 [.int v0, .int (b2i ((tbS (oN O) (nI i) 6) = 1))] := by
            intro v0 hv0
            subst hv0
            refine x_icmp_ne C 597 dL_isWhole_516 (by decide) (fun c => absurd (b2i_c (wb_3 hb)) c) (fun _ => ?_)
            refine x_iload C 2 dL_isWhole_519 rfl ?_
            refine x_sipush (v := (-1005)) C dL_isWhole_521 (by decide) ?_
            have j_532 : ∀ v0 : Int32, v0 = (b2i ((midN (oN O) (nI i)) = (-1005))) → X cx (0, 0) (obW (xG cx) a O) [(9, .int ((sm (fun c => deadN (oN O) (nI c)) i) + (deadN (oN O) (nI i)))), (8, .int ((sm (fun c => allN (oN O) (nI c)) i) + (allN (oN O) (nI i)))), (13, .int (midN (oN O) (nI i))), (12, .int (deadN (oN O) (nI i))), (11, .int (allN (oN O) (nI i))), (0, .ref (aaX a)), (1, .int (sm (sA (oN O) 6) (sN (oN O)))), (2, .int (sm (sA (oN O) 5) (sN (oN O)))), (3, .int (cnt (fun j => sA (oN O) 7 j ≠ -1) (sN (oN O)))), (4, .int (cnt (fun k => wdS (oN O) k = 0) (sN (oN O)))), (5, .int (cnt (fun j => sA (oN O) 3 j ≠ -1) (sN (oN O)))), (6, .int (cnt (fun j => shr (nI j) = 9) (sN (oN O)))), (7, .int 1), (10, .int (nI i))] 532 [.int v0] := by
              intro v0 hv0
              subst hv0
              refine x_iload C 4 dL_isWhole_532 rfl ?_
              have j_551 : ∀ v0 : Int32, v0 = (b2i (allN (oN O) (nI i) = 0 ∨ 2 * deadN (oN O) (nI i) < allN (oN O) (nI i))) → X cx (0, 0) (obW (xG cx) a O) [(9, .int ((sm (fun c => deadN (oN O) (nI c)) i) + (deadN (oN O) (nI i)))), (8, .int ((sm (fun c => allN (oN O) (nI c)) i) + (allN (oN O) (nI i)))), (13, .int (midN (oN O) (nI i))), (12, .int (deadN (oN O) (nI i))), (11, .int (allN (oN O) (nI i))), (0, .ref (aaX a)), (1, .int (sm (sA (oN O) 6) (sN (oN O)))), (2, .int (sm (sA (oN O) 5) (sN (oN O)))), (3, .int (cnt (fun j => sA (oN O) 7 j ≠ -1) (sN (oN O)))), (4, .int (cnt (fun k => wdS (oN O) k = 0) (sN (oN O)))), (5, .int (cnt (fun j => sA (oN O) 3 j ≠ -1) (sN (oN O)))), (6, .int (cnt (fun j => shr (nI j) = 9) (sN (oN O)))), (7, .int 1), (10, .int (nI i))] 551 [.int v0, .int (b2i ((midN (oN O) (nI i)) = (-1005)))] := by
                intro v0 hv0
                subst hv0
                refine x_icmp_ne C 597 dL_isWhole_551 (by decide) (fun c => absurd (b2i_c (wb_4 hI _)) c) (fun _ => ?_)
                refine x_aload_n C 5 dL_isWhole_554 rfl rfl ?_
                refine x_iload C 13 dL_isWhole_555 rfl ?_
                refine x_iconst (v := 0) C dL_isWhole_557 (by decide) ?_
                refine x_oRO C ([.int (nI i), .int 0]) ([]) (a := a) (O := O) (na := 2) gL_isWhole_X6_lasted rfl (by decide +kernel) rfl (oX6_lasted (xl cx) (xG cx) a O (nI i) 0 (S := oN O) rfl hok) rfl rfl rfl ⟨by decide, by decide⟩ (Nat.le_of_ble_eq_true rfl) ⟨by decide, by decide⟩ dL_isWhole_558 ?_
                refine x_iload C 4 dL_isWhole_561 rfl ?_
                refine x_icmp_ne C 597 dL_isWhole_563 (by decide) (fun c => absurd (wb_5 hI hb) c) (fun _ => ?_)
                refine x_iload C 2 dL_isWhole_566 rfl ?_
                have j_593 : X cx (0, 0) (obW (xG cx) a O) [(9, .int ((sm (fun c => deadN (oN O) (nI c)) i) + (deadN (oN O) (nI i)))), (8, .int ((sm (fun c => allN (oN O) (nI c)) i) + (allN (oN O) (nI i)))), (13, .int (midN (oN O) (nI i))), (12, .int (deadN (oN O) (nI i))), (11, .int (allN (oN O) (nI i))), (0, .ref (aaX a)), (1, .int (sm (sA (oN O) 6) (sN (oN O)))), (2, .int (sm (sA (oN O) 5) (sN (oN O)))), (3, .int (cnt (fun j => sA (oN O) 7 j ≠ -1) (sN (oN O)))), (4, .int (cnt (fun k => wdS (oN O) k = 0) (sN (oN O)))), (5, .int (cnt (fun j => sA (oN O) 3 j ≠ -1) (sN (oN O)))), (6, .int (cnt (fun j => shr (nI j) = 9) (sN (oN O)))), (7, .int 1), (10, .int (nI i))] 593 [] := by
                  refine x_iconst (v := 1) C dL_isWhole_593 (by decide) ?_
                  refine x_goto (tgt := 598) C dL_isWhole_594 (by decide) ?_
                  refine x_istore C [(7, .int 1), (9, .int ((sm (fun c => deadN (oN O) (nI c)) i) + (deadN (oN O) (nI i)))), (8, .int ((sm (fun c => allN (oN O) (nI c)) i) + (allN (oN O) (nI i)))), (13, .int (midN (oN O) (nI i))), (12, .int (deadN (oN O) (nI i))), (11, .int (allN (oN O) (nI i))), (0, .ref (aaX a)), (1, .int (sm (sA (oN O) 6) (sN (oN O)))), (2, .int (sm (sA (oN O) 5) (sN (oN O)))), (3, .int (cnt (fun j => sA (oN O) 7 j ≠ -1) (sN (oN O)))), (4, .int (cnt (fun k => wdS (oN O) k = 0) (sN (oN O)))), (5, .int (cnt (fun j => sA (oN O) 3 j ≠ -1) (sN (oN O)))), (6, .int (cnt (fun j => shr (nI j) = 9) (sN (oN O)))), (10, .int (nI i))] dL_isWhole_598 (by decide) rfl ?_
                  refine x_iinc C 13 [(10, .int (nI (i + 1))), (7, .int 1), (9, .int ((sm (fun c => deadN (oN O) (nI c)) i) + (deadN (oN O) (nI i)))), (8, .int ((sm (fun c => allN (oN O) (nI c)) i) + (allN (oN O) (nI i)))), (13, .int (midN (oN O) (nI i))), (12, .int (deadN (oN O) (nI i))), (11, .int (allN (oN O) (nI i))), (0, .ref (aaX a)), (1, .int (sm (sA (oN O) 6) (sN (oN O)))), (2, .int (sm (sA (oN O) 5) (sN (oN O)))), (3, .int (cnt (fun j => sA (oN O) 7 j ≠ -1) (sN (oN O)))), (4, .int (cnt (fun k => wdS (oN O) k = 0) (sN (oN O)))), (5, .int (cnt (fun j => sA (oN O) 3 j ≠ -1) (sN (oN O)))), (6, .int (cnt (fun j => shr (nI j) = 9) (sN (oN O))))] dL_isWhole_600 rfl (inc1 i) (by decide) rfl ?_
                  refine x_goto (tgt := 408) C dL_isWhole_603 (by decide) ?_
                  refine x_lv [(0, .ref (aaX a)), (1, .int (sm (sA (oN O) 6) (sN (oN O)))), (2, .int (sm (sA (oN O) 5) (sN (oN O)))), (3, .int (cnt (fun j => sA (oN O) 7 j ≠ -1) (sN (oN O)))), (4, .int (cnt (fun k => wdS (oN O) k = 0) (sN (oN O)))), (5, .int (cnt (fun j => sA (oN O) 3 j ≠ -1) (sN (oN O)))), (6, .int (cnt (fun j => shr (nI j) = 9) (sN (oN O)))), (7, .int 1), (8, .int (sm (fun c => allN (oN O) (nI c)) (i + 1))), (9, .int (sm (fun c => deadN (oN O) (nI c)) (i + 1))), (10, .int (nI (i + 1)))] [7, 8, 9, 10, 11, 12, 13, 1, 3, 2, 0] rfl ?_
                  exact ih (i + 1) (by omega)
                refine x_if_lt C 593 dL_isWhole_568 (by decide) (fun c_568 => ?_) (fun c_568 => ?_)
                ·
                  exact j_593
                ·
                  refine x_aload_n C 5 dL_isWhole_571 rfl rfl ?_
                  refine x_iload C 13 dL_isWhole_572 rfl ?_
                  refine x_iload C 2 dL_isWhole_574 rfl ?_
                  refine x_oRO C ([.int (nI i), .int (midN (oN O) (nI i))]) ([]) (a := a) (O := O) (na := 2) gL_isWhole_X6_lasted rfl (by decide +kernel) rfl (oX6_lasted (xl cx) (xG cx) a O (nI i) (midN (oN O) (nI i)) (S := oN O) rfl hok) rfl rfl rfl ⟨by decide, by decide⟩ (Nat.le_of_ble_eq_true rfl) ⟨by decide, by decide⟩ dL_isWhole_576 ?_
                  refine x_iload C 3 dL_isWhole_579 rfl ?_
                  refine x_iload C 4 dL_isWhole_581 rfl ?_
                  refine x_iconst (v := 1) C dL_isWhole_583 (by decide) ?_
                  refine x_iadd C (rfl) dL_isWhole_584 ?_
                  refine x_iconst (v := 2) C dL_isWhole_585 (by decide) ?_
                  refine x_idiv C (rfl) dL_isWhole_586 (by decide) ?_
                  refine x_isub C (rfl) dL_isWhole_587 ?_
                  refine x_iconst (v := 1) C dL_isWhole_588 (by decide) ?_
                  refine x_iadd C (rfl) dL_isWhole_589 ?_
                  refine x_icmp_lt C 597 dL_isWhole_590 (by decide) (fun c => absurd c (wb_6 hI hb c_568)) (fun _ => ?_)
                  exact j_593
              refine x_if_eq C 546 dL_isWhole_534 (by decide) (fun c_534 => ?_) (fun c_534 => ?_)
              ·
                refine x_iconst (v := 1) C dL_isWhole_546 (by decide) ?_
                refine x_goto (tgt := 551) C dL_isWhole_547 (by decide) ?_
                exact j_551 _ ((b2i_t (Or.inl c_534)).symm)
              ·
                refine x_iconst (v := 2) C dL_isWhole_537 (by decide) ?_
                refine x_iload C 3 dL_isWhole_538 rfl ?_
                refine x_imul C (rfl) dL_isWhole_540 ?_
                refine x_iload C 4 dL_isWhole_541 rfl ?_
                refine x_icmp_ge C 550 dL_isWhole_543 (by decide) (fun c_543 => ?_) (fun c_543 => ?_)
                ·
                  refine x_iconst (v := 0) C dL_isWhole_550 (by decide) ?_
                  exact j_551 _ ((b2i_f (fun z => z.elim c_534 (Int32.not_lt.mpr c_543))).symm)
                ·
                  refine x_iconst (v := 1) C dL_isWhole_546 (by decide) ?_
                  refine x_goto (tgt := 551) C dL_isWhole_547 (by decide) ?_
                  exact j_551 _ ((b2i_t (Or.inr (Int32.not_le.mp c_543))).symm)
            refine x_icmp_ne C 531 dL_isWhole_524 (by decide) (fun c_524 => ?_) (fun c_524 => ?_)
            ·
              refine x_iconst (v := 0) C dL_isWhole_531 (by decide) ?_
              exact j_532 _ ((b2i_f c_524).symm)
            ·
              refine x_iconst (v := 1) C dL_isWhole_527 (by decide) ?_
              refine x_goto (tgt := 532) C dL_isWhole_528 (by decide) ?_
              exact j_532 _ ((b2i_t c_524).symm)
          refine x_icmp_le C 515 dL_isWhole_508 (by decide) (fun c_508 => ?_) (fun c_508 => ?_)
          ·
            refine x_iconst (v := 0) C dL_isWhole_515 (by decide) ?_
            exact j_516 _ ((b2i_f (fun z => z c_508)).symm)
          ·
            refine x_iconst (v := 1) C dL_isWhole_511 (by decide) ?_
            refine x_goto (tgt := 516) C dL_isWhole_512 (by decide) ?_
            exact j_516 _ ((b2i_t c_508).symm)
        refine x_icmp_ne C 496 dL_isWhole_489 (by decide) (fun c_489 => ?_) (fun c_489 => ?_)
        ·
          refine x_iconst (v := 0) C dL_isWhole_496 (by decide) ?_
          exact j_497 _ ((b2i_f c_489).symm)
        ·
          refine x_iconst (v := 1) C dL_isWhole_492 (by decide) ?_
          refine x_goto (tgt := 497) C dL_isWhole_493 (by decide) ?_
          exact j_497 _ ((b2i_t c_489).symm)
    refine x_lv [(0, .ref (aaX a)), (1, .int (sm (sA (oN O) 6) (sN (oN O)))), (2, .int (sm (sA (oN O) 5) (sN (oN O)))), (3, .int (cnt (fun j => sA (oN O) 7 j ≠ -1) (sN (oN O)))), (4, .int (cnt (fun k => wdS (oN O) k = 0) (sN (oN O)))), (5, .int (cnt (fun j => sA (oN O) 3 j ≠ -1) (sN (oN O)))), (6, .int (cnt (fun j => shr (nI j) = 9) (sN (oN O)))), (7, .int 1), (8, .int (sm (fun c => allN (oN O) (nI c)) 0)), (9, .int (sm (fun c => deadN (oN O) (nI c)) 0)), (10, .int (nI 0))] [3, 4, 5, 6, 7, 8, 9, 10, 2, 1, 0] rfl ?_
    exact lp_408 6 0 (by omega)
  have lp_21 : ∀ (d i : Nat), i + d = sN (oN O) → X cx (0, 0) (obW (xG cx) a O) [(0, .ref (aaX a)), (1, .int (sm (sA (oN O) 6) i)), (2, .int (sm (sA (oN O) 5) i)), (3, .int (cnt (fun j => sA (oN O) 7 j ≠ -1) i)), (4, .int (cnt (fun k => wdS (oN O) k = 0) i)), (5, .int (cnt (fun j => sA (oN O) 3 j ≠ -1) i)), (6, .int (cnt (fun j => shr (nI j) = 9) i)), (7, .int 1), (8, .int (nI i))] 21 [] := by
    intro d
    induction d with
    | zero =>
      intro i hi
      obtain rfl : i = sN (oN O) := by omega
      refine x_iload C 8 dL_isWhole_21 rfl ?_
      refine x_aload_n C 0 dL_isWhole_23 rfl rfl ?_
      refine x_iconst (v := 1) C dL_isWhole_24 (by decide) ?_
      refine x_oRO C ([.int 1]) ([.int (nI (sN (oN O)))]) (a := a) (O := O) (na := 1) gL_isWhole_X6_count rfl (by decide +kernel) rfl (oX6_count (xl cx) (xG cx) a O 1 (S := oN O) rfl hok) rfl rfl rfl ⟨by decide, by decide⟩ (Nat.le_of_ble_eq_true rfl) ⟨by decide, by decide⟩ dL_isWhole_25 ?_
      refine x_top (y := nI (sN (oN O))) (cnt_1 _ _ _) ?_
      refine x_icmp_ge C 399 dL_isWhole_28 (by decide) (fun _ => ?_) (fun c => absurd (nI_le (a := sN (oN O)) (b := sN (oN O)) (by omega) (by omega)) c)
      refine x_lv [(0, .ref (aaX a)), (1, .int (sm (sA (oN O) 6) (sN (oN O)))), (2, .int (sm (sA (oN O) 5) (sN (oN O)))), (3, .int (cnt (fun j => sA (oN O) 7 j ≠ -1) (sN (oN O)))), (4, .int (cnt (fun k => wdS (oN O) k = 0) (sN (oN O)))), (5, .int (cnt (fun j => sA (oN O) 3 j ≠ -1) (sN (oN O)))), (6, .int (cnt (fun j => shr (nI j) = 9) (sN (oN O)))), (7, .int 1)] [0, 1, 2, 3, 4, 5, 6, 7] rfl ?_
      exact ex_21
    | succ d ih =>
      intro i hi
      have hk : i < sN (oN O) := by omega
      refine x_iload C 8 dL_isWhole_21 rfl ?_
      refine x_aload_n C 0 dL_isWhole_23 rfl rfl ?_
      refine x_iconst (v := 1) C dL_isWhole_24 (by decide) ?_
      refine x_oRO C ([.int 1]) ([.int (nI i)]) (a := a) (O := O) (na := 1) gL_isWhole_X6_count rfl (by decide +kernel) rfl (oX6_count (xl cx) (xG cx) a O 1 (S := oN O) rfl hok) rfl rfl rfl ⟨by decide, by decide⟩ (Nat.le_of_ble_eq_true rfl) ⟨by decide, by decide⟩ dL_isWhole_25 ?_
      refine x_top (y := nI (sN (oN O))) (cnt_1 _ _ _) ?_
      refine x_icmp_ge C 399 dL_isWhole_28 (by decide) (fun c => absurd c (nI_ge (a := i) (b := sN (oN O)) (by omega) (by omega))) (fun _ => ?_)
      refine x_iload C 7 dL_isWhole_31 rfl ?_
      refine x_if_eq C 399 dL_isWhole_33 (by decide) (fun h => absurd h (by decide)) (fun _ => ?_)
      refine x_aload_n C 0 dL_isWhole_36 rfl rfl ?_
      refine x_iload C 8 dL_isWhole_37 rfl ?_
      refine x_iconst (v := 1) C dL_isWhole_39 (by decide) ?_
      refine x_oRO C ([.int (nI i), .int 1]) ([]) (a := a) (O := O) (na := 2) gL_isWhole_X6_lamp rfl (by decide +kernel) rfl (oX6_lamp (xl cx) (xG cx) a O (nI i) 1 (S := oN O) rfl hok) rfl rfl rfl ⟨by decide, by decide⟩ (Nat.le_of_ble_eq_true rfl) ⟨by decide, by decide⟩ dL_isWhole_40 ?_
      refine x_istore C [(9, .int (tlS (oN O) (nI i) 1)), (0, .ref (aaX a)), (1, .int (sm (sA (oN O) 6) i)), (2, .int (sm (sA (oN O) 5) i)), (3, .int (cnt (fun j => sA (oN O) 7 j ≠ -1) i)), (4, .int (cnt (fun k => wdS (oN O) k = 0) i)), (5, .int (cnt (fun j => sA (oN O) 3 j ≠ -1) i)), (6, .int (cnt (fun j => shr (nI j) = 9) i)), (7, .int 1), (8, .int (nI i))] dL_isWhole_43 (by decide) rfl ?_
      refine x_aload_n C 1 dL_isWhole_45 rfl rfl ?_
      refine x_iload C 9 dL_isWhole_46 rfl ?_
      refine x_iconst (v := 2) C dL_isWhole_48 (by decide) ?_
      refine x_oRO C ([.int (nI i), .int 2]) ([]) (a := a) (O := O) (na := 2) gL_isWhole_X6_lamp rfl (by decide +kernel) rfl (oX6_lamp (xl cx) (xG cx) a O (nI i) 2 (S := oN O) rfl hok) rfl rfl rfl ⟨by decide, by decide⟩ (Nat.le_of_ble_eq_true rfl) ⟨by decide, by decide⟩ dL_isWhole_49 ?_
      refine x_istore C [(10, .int (tlS (oN O) (nI i) 2)), (9, .int (tlS (oN O) (nI i) 1)), (0, .ref (aaX a)), (1, .int (sm (sA (oN O) 6) i)), (2, .int (sm (sA (oN O) 5) i)), (3, .int (cnt (fun j => sA (oN O) 7 j ≠ -1) i)), (4, .int (cnt (fun k => wdS (oN O) k = 0) i)), (5, .int (cnt (fun j => sA (oN O) 3 j ≠ -1) i)), (6, .int (cnt (fun j => shr (nI j) = 9) i)), (7, .int 1), (8, .int (nI i))] dL_isWhole_52 (by decide) rfl ?_
      refine x_aload_n C 2 dL_isWhole_54 rfl rfl ?_
      refine x_iload C 10 dL_isWhole_55 rfl ?_
      refine x_iconst (v := 3) C dL_isWhole_57 (by decide) ?_
      refine x_oRO C ([.int (nI i), .int 3]) ([]) (a := a) (O := O) (na := 2) gL_isWhole_X6_lamp rfl (by decide +kernel) rfl (oX6_lamp (xl cx) (xG cx) a O (nI i) 3 (S := oN O) rfl hok) rfl rfl rfl ⟨by decide, by decide⟩ (Nat.le_of_ble_eq_true rfl) ⟨by decide, by decide⟩ dL_isWhole_58 ?_
      refine x_istore C [(11, .int (tlS (oN O) (nI i) 3)), (10, .int (tlS (oN O) (nI i) 2)), (9, .int (tlS (oN O) (nI i) 1)), (0, .ref (aaX a)), (1, .int (sm (sA (oN O) 6) i)), (2, .int (sm (sA (oN O) 5) i)), (3, .int (cnt (fun j => sA (oN O) 7 j ≠ -1) i)), (4, .int (cnt (fun k => wdS (oN O) k = 0) i)), (5, .int (cnt (fun j => sA (oN O) 3 j ≠ -1) i)), (6, .int (cnt (fun j => shr (nI j) = 9) i)), (7, .int 1), (8, .int (nI i))] dL_isWhole_61 (by decide) rfl ?_
      refine x_aload_n C 3 dL_isWhole_63 rfl rfl ?_
      refine x_iload C 11 dL_isWhole_64 rfl ?_
      refine x_iconst (v := 4) C dL_isWhole_66 (by decide) ?_
      refine x_oRO C ([.int (nI i), .int 4]) ([]) (a := a) (O := O) (na := 2) gL_isWhole_X6_lamp rfl (by decide +kernel) rfl (oX6_lamp (xl cx) (xG cx) a O (nI i) 4 (S := oN O) rfl hok) rfl rfl rfl ⟨by decide, by decide⟩ (Nat.le_of_ble_eq_true rfl) ⟨by decide, by decide⟩ dL_isWhole_67 ?_
      refine x_istore C [(12, .int (tlS (oN O) (nI i) 4)), (11, .int (tlS (oN O) (nI i) 3)), (10, .int (tlS (oN O) (nI i) 2)), (9, .int (tlS (oN O) (nI i) 1)), (0, .ref (aaX a)), (1, .int (sm (sA (oN O) 6) i)), (2, .int (sm (sA (oN O) 5) i)), (3, .int (cnt (fun j => sA (oN O) 7 j ≠ -1) i)), (4, .int (cnt (fun k => wdS (oN O) k = 0) i)), (5, .int (cnt (fun j => sA (oN O) 3 j ≠ -1) i)), (6, .int (cnt (fun j => shr (nI j) = 9) i)), (7, .int 1), (8, .int (nI i))] dL_isWhole_70 (by decide) rfl ?_
      refine x_aload_n C 4 dL_isWhole_72 rfl rfl ?_
      refine x_iload C 12 dL_isWhole_73 rfl ?_
      refine x_bipush (v := 7) C dL_isWhole_75 (by decide) ?_
      refine x_oRO C ([.int (nI i), .int 7]) ([]) (a := a) (O := O) (na := 2) gL_isWhole_X6_lamp rfl (by decide +kernel) rfl (oX6_lamp (xl cx) (xG cx) a O (nI i) 7 (S := oN O) rfl hok) rfl rfl rfl ⟨by decide, by decide⟩ (Nat.le_of_ble_eq_true rfl) ⟨by decide, by decide⟩ dL_isWhole_77 ?_
      refine x_iconst (v := 1) C dL_isWhole_80 (by decide) ?_
      have j_89 : ∀ v0 : Int32, v0 = (b2i ((tlS (oN O) (nI i) 7) = 1)) → X cx (0, 0) (obW (xG cx) a O) [(12, .int (tlS (oN O) (nI i) 4)), (11, .int (tlS (oN O) (nI i) 3)), (10, .int (tlS (oN O) (nI i) 2)), (9, .int (tlS (oN O) (nI i) 1)), (0, .ref (aaX a)), (1, .int (sm (sA (oN O) 6) i)), (2, .int (sm (sA (oN O) 5) i)), (3, .int (cnt (fun j => sA (oN O) 7 j ≠ -1) i)), (4, .int (cnt (fun k => wdS (oN O) k = 0) i)), (5, .int (cnt (fun j => sA (oN O) 3 j ≠ -1) i)), (6, .int (cnt (fun j => shr (nI j) = 9) i)), (7, .int 1), (8, .int (nI i))] 89 [.int v0] := by
        intro v0 hv0
        subst hv0
        refine x_istore C [(13, .int (b2i ((tlS (oN O) (nI i) 7) = 1))), (12, .int (tlS (oN O) (nI i) 4)), (11, .int (tlS (oN O) (nI i) 3)), (10, .int (tlS (oN O) (nI i) 2)), (9, .int (tlS (oN O) (nI i) 1)), (0, .ref (aaX a)), (1, .int (sm (sA (oN O) 6) i)), (2, .int (sm (sA (oN O) 5) i)), (3, .int (cnt (fun j => sA (oN O) 7 j ≠ -1) i)), (4, .int (cnt (fun k => wdS (oN O) k = 0) i)), (5, .int (cnt (fun j => sA (oN O) 3 j ≠ -1) i)), (6, .int (cnt (fun j => shr (nI j) = 9) i)), (7, .int 1), (8, .int (nI i))] dL_isWhole_89 (by decide) rfl ?_
        refine x_iload_n C 6 dL_isWhole_91 rfl rfl ?_
        refine x_aload_n C 5 dL_isWhole_92 rfl rfl ?_
        refine x_iload C 13 dL_isWhole_93 rfl ?_
        refine x_iconst (v := 5) C dL_isWhole_95 (by decide) ?_
        refine x_oRO C ([.int (nI i), .int 5]) ([.int (sm (sA (oN O) 6) i)]) (a := a) (O := O) (na := 2) gL_isWhole_X6_lamp rfl (by decide +kernel) rfl (oX6_lamp (xl cx) (xG cx) a O (nI i) 5 (S := oN O) rfl hok) rfl rfl rfl ⟨by decide, by decide⟩ (Nat.le_of_ble_eq_true rfl) ⟨by decide, by decide⟩ dL_isWhole_96 ?_
        refine x_iadd C (rfl) dL_isWhole_99 ?_
        refine x_top (y := sm (sA (oN O) 6) (i + 1)) (ac_5 hn hk) ?_
        refine x_istore_n C [(1, .int (sm (sA (oN O) 6) (i + 1))), (13, .int (b2i ((tlS (oN O) (nI i) 7) = 1))), (12, .int (tlS (oN O) (nI i) 4)), (11, .int (tlS (oN O) (nI i) 3)), (10, .int (tlS (oN O) (nI i) 2)), (9, .int (tlS (oN O) (nI i) 1)), (0, .ref (aaX a)), (2, .int (sm (sA (oN O) 5) i)), (3, .int (cnt (fun j => sA (oN O) 7 j ≠ -1) i)), (4, .int (cnt (fun k => wdS (oN O) k = 0) i)), (5, .int (cnt (fun j => sA (oN O) 3 j ≠ -1) i)), (6, .int (cnt (fun j => shr (nI j) = 9) i)), (7, .int 1), (8, .int (nI i))] dL_isWhole_100 rfl (by decide) rfl ?_
        refine x_iload_n C 7 dL_isWhole_101 rfl rfl ?_
        refine x_iload C 2 dL_isWhole_102 rfl ?_
        refine x_iadd C (rfl) dL_isWhole_104 ?_
        refine x_top (y := sm (sA (oN O) 5) (i + 1)) (ac_4 hn hk) ?_
        refine x_istore_n C [(2, .int (sm (sA (oN O) 5) (i + 1))), (1, .int (sm (sA (oN O) 6) (i + 1))), (13, .int (b2i ((tlS (oN O) (nI i) 7) = 1))), (12, .int (tlS (oN O) (nI i) 4)), (11, .int (tlS (oN O) (nI i) 3)), (10, .int (tlS (oN O) (nI i) 2)), (9, .int (tlS (oN O) (nI i) 1)), (0, .ref (aaX a)), (3, .int (cnt (fun j => sA (oN O) 7 j ≠ -1) i)), (4, .int (cnt (fun k => wdS (oN O) k = 0) i)), (5, .int (cnt (fun j => sA (oN O) 3 j ≠ -1) i)), (6, .int (cnt (fun j => shr (nI j) = 9) i)), (7, .int 1), (8, .int (nI i))] dL_isWhole_105 rfl (by decide) rfl ?_
        refine x_iload_n C 8 dL_isWhole_106 rfl rfl ?_
        refine x_iload C 2 dL_isWhole_107 rfl ?_
        have j_117 : ∀ v0 : Int32, v0 = (b2i ((tlS (oN O) (nI i) 7) = 1)) → X cx (0, 0) (obW (xG cx) a O) [(2, .int (sm (sA (oN O) 5) (i + 1))), (1, .int (sm (sA (oN O) 6) (i + 1))), (13, .int (b2i ((tlS (oN O) (nI i) 7) = 1))), (12, .int (tlS (oN O) (nI i) 4)), (11, .int (tlS (oN O) (nI i) 3)), (10, .int (tlS (oN O) (nI i) 2)), (9, .int (tlS (oN O) (nI i) 1)), (0, .ref (aaX a)), (3, .int (cnt (fun j => sA (oN O) 7 j ≠ -1) i)), (4, .int (cnt (fun k => wdS (oN O) k = 0) i)), (5, .int (cnt (fun j => sA (oN O) 3 j ≠ -1) i)), (6, .int (cnt (fun j => shr (nI j) = 9) i)), (7, .int 1), (8, .int (nI i))] 117 [.int v0, .int (cnt (fun j => sA (oN O) 7 j ≠ -1) i)] := by
          intro v0 hv0
          subst hv0
          refine x_iadd C (rfl) dL_isWhole_117 ?_
          refine x_top (y := cnt (fun j => sA (oN O) 7 j ≠ -1) (i + 1)) (ac_7 hI hk) ?_
          refine x_istore_n C [(3, .int (cnt (fun j => sA (oN O) 7 j ≠ -1) (i + 1))), (2, .int (sm (sA (oN O) 5) (i + 1))), (1, .int (sm (sA (oN O) 6) (i + 1))), (13, .int (b2i ((tlS (oN O) (nI i) 7) = 1))), (12, .int (tlS (oN O) (nI i) 4)), (11, .int (tlS (oN O) (nI i) 3)), (10, .int (tlS (oN O) (nI i) 2)), (9, .int (tlS (oN O) (nI i) 1)), (0, .ref (aaX a)), (4, .int (cnt (fun k => wdS (oN O) k = 0) i)), (5, .int (cnt (fun j => sA (oN O) 3 j ≠ -1) i)), (6, .int (cnt (fun j => shr (nI j) = 9) i)), (7, .int 1), (8, .int (nI i))] dL_isWhole_118 rfl (by decide) rfl ?_
          refine x_iload C 10 dL_isWhole_119 rfl ?_
          refine x_iload C 7 dL_isWhole_121 rfl ?_
          have j_131 : ∀ v0 : Int32, v0 = (b2i (¬ ((tlS (oN O) (nI i) 1) < 0))) → X cx (0, 0) (obW (xG cx) a O) [(3, .int (cnt (fun j => sA (oN O) 7 j ≠ -1) (i + 1))), (2, .int (sm (sA (oN O) 5) (i + 1))), (1, .int (sm (sA (oN O) 6) (i + 1))), (13, .int (b2i ((tlS (oN O) (nI i) 7) = 1))), (12, .int (tlS (oN O) (nI i) 4)), (11, .int (tlS (oN O) (nI i) 3)), (10, .int (tlS (oN O) (nI i) 2)), (9, .int (tlS (oN O) (nI i) 1)), (0, .ref (aaX a)), (4, .int (cnt (fun k => wdS (oN O) k = 0) i)), (5, .int (cnt (fun j => sA (oN O) 3 j ≠ -1) i)), (6, .int (cnt (fun j => shr (nI j) = 9) i)), (7, .int 1), (8, .int (nI i))] 131 [.int v0, .int (cnt (fun j => sA (oN O) 3 j ≠ -1) i)] := by
            intro v0 hv0
            subst hv0
            refine x_iadd C (rfl) dL_isWhole_131 ?_
            refine x_top (y := cnt (fun j => sA (oN O) 3 j ≠ -1) (i + 1)) (ac_1 hI hk) ?_
            refine x_istore C [(5, .int (cnt (fun j => sA (oN O) 3 j ≠ -1) (i + 1))), (3, .int (cnt (fun j => sA (oN O) 7 j ≠ -1) (i + 1))), (2, .int (sm (sA (oN O) 5) (i + 1))), (1, .int (sm (sA (oN O) 6) (i + 1))), (13, .int (b2i ((tlS (oN O) (nI i) 7) = 1))), (12, .int (tlS (oN O) (nI i) 4)), (11, .int (tlS (oN O) (nI i) 3)), (10, .int (tlS (oN O) (nI i) 2)), (9, .int (tlS (oN O) (nI i) 1)), (0, .ref (aaX a)), (4, .int (cnt (fun k => wdS (oN O) k = 0) i)), (6, .int (cnt (fun j => shr (nI j) = 9) i)), (7, .int 1), (8, .int (nI i))] dL_isWhole_132 (by decide) rfl ?_
            refine x_iload C 11 dL_isWhole_134 rfl ?_
            refine x_aload_n C 9 dL_isWhole_136 rfl rfl ?_
            refine x_iload C 13 dL_isWhole_137 rfl ?_
            refine x_bipush (v := 9) C dL_isWhole_139 (by decide) ?_
            refine x_oRO C ([.int (nI i), .int 9]) ([.int (cnt (fun j => shr (nI j) = 9) i)]) (a := a) (O := O) (na := 2) gL_isWhole_X6_lamp rfl (by decide +kernel) rfl (oX6_lamp (xl cx) (xG cx) a O (nI i) 9 (S := oN O) rfl hok) rfl rfl rfl ⟨by decide, by decide⟩ (Nat.le_of_ble_eq_true rfl) ⟨by decide, by decide⟩ dL_isWhole_141 ?_
            refine x_iadd C (rfl) dL_isWhole_144 ?_
            refine x_top (y := cnt (fun j => shr (nI j) = 9) (i + 1)) (ac_9 hn hk) ?_
            refine x_istore C [(6, .int (cnt (fun j => shr (nI j) = 9) (i + 1))), (5, .int (cnt (fun j => sA (oN O) 3 j ≠ -1) (i + 1))), (3, .int (cnt (fun j => sA (oN O) 7 j ≠ -1) (i + 1))), (2, .int (sm (sA (oN O) 5) (i + 1))), (1, .int (sm (sA (oN O) 6) (i + 1))), (13, .int (b2i ((tlS (oN O) (nI i) 7) = 1))), (12, .int (tlS (oN O) (nI i) 4)), (11, .int (tlS (oN O) (nI i) 3)), (10, .int (tlS (oN O) (nI i) 2)), (9, .int (tlS (oN O) (nI i) 1)), (0, .ref (aaX a)), (4, .int (cnt (fun k => wdS (oN O) k = 0) i)), (7, .int 1), (8, .int (nI i))] dL_isWhole_145 (by decide) rfl ?_
            refine x_iload C 11 dL_isWhole_147 rfl ?_
            refine x_aload_n C 10 dL_isWhole_149 rfl rfl ?_
            refine x_iload C 13 dL_isWhole_150 rfl ?_
            refine x_oRO C ([.int (nI i)]) ([.int (cnt (fun k => wdS (oN O) k = 0) i)]) (a := a) (O := O) (na := 1) gL_isWhole_X6_reason rfl (by decide +kernel) rfl (oX6_reason (xl cx) (xG cx) a O (nI i) (S := oN O) rfl hok) rfl rfl rfl ⟨by decide, by decide⟩ (Nat.le_of_ble_eq_true rfl) ⟨by decide, by decide⟩ dL_isWhole_152 ?_
            have j_163 : ∀ v0 : Int32, v0 = (b2i ((rsnS (oN O) (nI i)) = 0)) → X cx (0, 0) (obW (xG cx) a O) [(6, .int (cnt (fun j => shr (nI j) = 9) (i + 1))), (5, .int (cnt (fun j => sA (oN O) 3 j ≠ -1) (i + 1))), (3, .int (cnt (fun j => sA (oN O) 7 j ≠ -1) (i + 1))), (2, .int (sm (sA (oN O) 5) (i + 1))), (1, .int (sm (sA (oN O) 6) (i + 1))), (13, .int (b2i ((tlS (oN O) (nI i) 7) = 1))), (12, .int (tlS (oN O) (nI i) 4)), (11, .int (tlS (oN O) (nI i) 3)), (10, .int (tlS (oN O) (nI i) 2)), (9, .int (tlS (oN O) (nI i) 1)), (0, .ref (aaX a)), (4, .int (cnt (fun k => wdS (oN O) k = 0) i)), (7, .int 1), (8, .int (nI i))] 163 [.int v0, .int (cnt (fun k => wdS (oN O) k = 0) i)] := by
              intro v0 hv0
              subst hv0
              refine x_iadd C (rfl) dL_isWhole_163 ?_
              refine x_top (y := cnt (fun k => wdS (oN O) k = 0) (i + 1)) (ac_3 hn hk) ?_
              refine x_istore C [(4, .int (cnt (fun k => wdS (oN O) k = 0) (i + 1))), (6, .int (cnt (fun j => shr (nI j) = 9) (i + 1))), (5, .int (cnt (fun j => sA (oN O) 3 j ≠ -1) (i + 1))), (3, .int (cnt (fun j => sA (oN O) 7 j ≠ -1) (i + 1))), (2, .int (sm (sA (oN O) 5) (i + 1))), (1, .int (sm (sA (oN O) 6) (i + 1))), (13, .int (b2i ((tlS (oN O) (nI i) 7) = 1))), (12, .int (tlS (oN O) (nI i) 4)), (11, .int (tlS (oN O) (nI i) 3)), (10, .int (tlS (oN O) (nI i) 2)), (9, .int (tlS (oN O) (nI i) 1)), (0, .ref (aaX a)), (7, .int 1), (8, .int (nI i))] dL_isWhole_164 (by decide) rfl ?_
              refine x_iload C 10 dL_isWhole_166 rfl ?_
              have j_176 : ∀ v0 : Int32, v0 = (b2i (¬ (0 ≤ (tlS (oN O) (nI i) 1)))) → X cx (0, 0) (obW (xG cx) a O) [(4, .int (cnt (fun k => wdS (oN O) k = 0) (i + 1))), (6, .int (cnt (fun j => shr (nI j) = 9) (i + 1))), (5, .int (cnt (fun j => sA (oN O) 3 j ≠ -1) (i + 1))), (3, .int (cnt (fun j => sA (oN O) 7 j ≠ -1) (i + 1))), (2, .int (sm (sA (oN O) 5) (i + 1))), (1, .int (sm (sA (oN O) 6) (i + 1))), (13, .int (b2i ((tlS (oN O) (nI i) 7) = 1))), (12, .int (tlS (oN O) (nI i) 4)), (11, .int (tlS (oN O) (nI i) 3)), (10, .int (tlS (oN O) (nI i) 2)), (9, .int (tlS (oN O) (nI i) 1)), (0, .ref (aaX a)), (7, .int 1), (8, .int (nI i))] 176 [.int v0] := by
                intro v0 hv0
                subst hv0
                refine x_iload C 9 dL_isWhole_176 rfl ?_
                have j_186 : ∀ v0 : Int32, v0 = (b2i (¬ (0 ≤ (tlS (oN O) (nI i) 2)))) → X cx (0, 0) (obW (xG cx) a O) [(4, .int (cnt (fun k => wdS (oN O) k = 0) (i + 1))), (6, .int (cnt (fun j => shr (nI j) = 9) (i + 1))), (5, .int (cnt (fun j => sA (oN O) 3 j ≠ -1) (i + 1))), (3, .int (cnt (fun j => sA (oN O) 7 j ≠ -1) (i + 1))), (2, .int (sm (sA (oN O) 5) (i + 1))), (1, .int (sm (sA (oN O) 6) (i + 1))), (13, .int (b2i ((tlS (oN O) (nI i) 7) = 1))), (12, .int (tlS (oN O) (nI i) 4)), (11, .int (tlS (oN O) (nI i) 3)), (10, .int (tlS (oN O) (nI i) 2)), (9, .int (tlS (oN O) (nI i) 1)), (0, .ref (aaX a)), (7, .int 1), (8, .int (nI i))] 186 [.int v0, .int (b2i (¬ (0 ≤ (tlS (oN O) (nI i) 1))))] := by
                  intro v0 hv0
                  subst hv0
                  refine x_icmp_ne C 390 dL_isWhole_186 (by decide) (fun c => absurd (b2i_c (by rw [Int32.not_le, Int32.not_le]; exact wl_1 hI hk)) c) (fun _ => ?_)
                  refine x_iload C 10 dL_isWhole_189 rfl ?_
                  have j_207 : X cx (0, 0) (obW (xG cx) a O) [(4, .int (cnt (fun k => wdS (oN O) k = 0) (i + 1))), (6, .int (cnt (fun j => shr (nI j) = 9) (i + 1))), (5, .int (cnt (fun j => sA (oN O) 3 j ≠ -1) (i + 1))), (3, .int (cnt (fun j => sA (oN O) 7 j ≠ -1) (i + 1))), (2, .int (sm (sA (oN O) 5) (i + 1))), (1, .int (sm (sA (oN O) 6) (i + 1))), (13, .int (b2i ((tlS (oN O) (nI i) 7) = 1))), (12, .int (tlS (oN O) (nI i) 4)), (11, .int (tlS (oN O) (nI i) 3)), (10, .int (tlS (oN O) (nI i) 2)), (9, .int (tlS (oN O) (nI i) 1)), (0, .ref (aaX a)), (7, .int 1), (8, .int (nI i))] 207 [] := by
                    refine x_iload C 8 dL_isWhole_207 rfl ?_
                    refine x_if_le C 390 dL_isWhole_209 (by decide) (fun c => absurd c (Int32.not_le.mpr (wl_3 hI hk))) (fun _ => ?_)
                    refine x_iload C 6 dL_isWhole_212 rfl ?_
                    refine x_iload C 7 dL_isWhole_214 rfl ?_
                    refine x_bipush (v := 10) C dL_isWhole_216 (by decide) ?_
                    refine x_iload C 8 dL_isWhole_218 rfl ?_
                    refine x_imul C (rfl) dL_isWhole_220 ?_
                    have j_229 : ∀ v0 : Int32, v0 = (b2i (¬ ((tlS (oN O) (nI i) 4) < (10 * (tlS (oN O) (nI i) 3))))) → X cx (0, 0) (obW (xG cx) a O) [(4, .int (cnt (fun k => wdS (oN O) k = 0) (i + 1))), (6, .int (cnt (fun j => shr (nI j) = 9) (i + 1))), (5, .int (cnt (fun j => sA (oN O) 3 j ≠ -1) (i + 1))), (3, .int (cnt (fun j => sA (oN O) 7 j ≠ -1) (i + 1))), (2, .int (sm (sA (oN O) 5) (i + 1))), (1, .int (sm (sA (oN O) 6) (i + 1))), (13, .int (b2i ((tlS (oN O) (nI i) 7) = 1))), (12, .int (tlS (oN O) (nI i) 4)), (11, .int (tlS (oN O) (nI i) 3)), (10, .int (tlS (oN O) (nI i) 2)), (9, .int (tlS (oN O) (nI i) 1)), (0, .ref (aaX a)), (7, .int 1), (8, .int (nI i))] 229 [.int v0, .int (b2i ((tlS (oN O) (nI i) 7) = 1))] := by
                      intro v0 hv0
                      subst hv0
                      refine x_icmp_ne C 390 dL_isWhole_229 (by decide) (fun c => absurd (b2i_c (wl_4 hI hk)) c) (fun _ => ?_)
                      refine x_iload C 7 dL_isWhole_232 rfl ?_
                      refine x_aload_n C 11 dL_isWhole_234 rfl rfl ?_
                      refine x_iload C 13 dL_isWhole_235 rfl ?_
                      refine x_iconst (v := 5) C dL_isWhole_237 (by decide) ?_
                      refine x_oRO C ([.int (nI i), .int 5]) ([.int (tlS (oN O) (nI i) 4)]) (a := a) (O := O) (na := 2) gL_isWhole_X6_lamp rfl (by decide +kernel) rfl (oX6_lamp (xl cx) (xG cx) a O (nI i) 5 (S := oN O) rfl hok) rfl rfl rfl ⟨by decide, by decide⟩ (Nat.le_of_ble_eq_true rfl) ⟨by decide, by decide⟩ dL_isWhole_238 ?_
                      refine x_icmp_lt C 390 dL_isWhole_241 (by decide) (fun c => absurd c (wl_5 hI hk)) (fun _ => ?_)
                      refine x_aload_n C 11 dL_isWhole_244 rfl rfl ?_
                      refine x_iload C 13 dL_isWhole_245 rfl ?_
                      refine x_bipush (v := 6) C dL_isWhole_247 (by decide) ?_
                      refine x_oRO C ([.int (nI i), .int 6]) ([]) (a := a) (O := O) (na := 2) gL_isWhole_X6_lamp rfl (by decide +kernel) rfl (oX6_lamp (xl cx) (xG cx) a O (nI i) 6 (S := oN O) rfl hok) rfl rfl rfl ⟨by decide, by decide⟩ (Nat.le_of_ble_eq_true rfl) ⟨by decide, by decide⟩ dL_isWhole_249 ?_
                      refine x_iload C 7 dL_isWhole_252 rfl ?_
                      refine x_bipush (v := 10) C dL_isWhole_254 (by decide) ?_
                      refine x_idiv C (rfl) dL_isWhole_256 (by decide) ?_
                      refine x_icmp_ne C 390 dL_isWhole_257 (by decide) (fun c => absurd (wl_6 hI hk) c) (fun _ => ?_)
                      refine x_iload C 6 dL_isWhole_260 rfl ?_
                      have j_309 : X cx (0, 0) (obW (xG cx) a O) [(4, .int (cnt (fun k => wdS (oN O) k = 0) (i + 1))), (6, .int (cnt (fun j => shr (nI j) = 9) (i + 1))), (5, .int (cnt (fun j => sA (oN O) 3 j ≠ -1) (i + 1))), (3, .int (cnt (fun j => sA (oN O) 7 j ≠ -1) (i + 1))), (2, .int (sm (sA (oN O) 5) (i + 1))), (1, .int (sm (sA (oN O) 6) (i + 1))), (13, .int (b2i ((tlS (oN O) (nI i) 7) = 1))), (12, .int (tlS (oN O) (nI i) 4)), (11, .int (tlS (oN O) (nI i) 3)), (10, .int (tlS (oN O) (nI i) 2)), (9, .int (tlS (oN O) (nI i) 1)), (0, .ref (aaX a)), (7, .int 1), (8, .int (nI i))] 309 [] := by
                        refine x_aload_n C 11 dL_isWhole_309 rfl rfl ?_
                        refine x_iload C 13 dL_isWhole_310 rfl ?_
                        refine x_bipush (v := 9) C dL_isWhole_312 (by decide) ?_
                        refine x_oRO C ([.int (nI i), .int 9]) ([]) (a := a) (O := O) (na := 2) gL_isWhole_X6_lamp rfl (by decide +kernel) rfl (oX6_lamp (xl cx) (xG cx) a O (nI i) 9 (S := oN O) rfl hok) rfl rfl rfl ⟨by decide, by decide⟩ (Nat.le_of_ble_eq_true rfl) ⟨by decide, by decide⟩ dL_isWhole_314 ?_
                        refine x_iconst (v := 1) C dL_isWhole_317 (by decide) ?_
                        have j_326 : ∀ v0 : Int32, v0 = (b2i ((tlS (oN O) (nI i) 9) = 1)) → X cx (0, 0) (obW (xG cx) a O) [(4, .int (cnt (fun k => wdS (oN O) k = 0) (i + 1))), (6, .int (cnt (fun j => shr (nI j) = 9) (i + 1))), (5, .int (cnt (fun j => sA (oN O) 3 j ≠ -1) (i + 1))), (3, .int (cnt (fun j => sA (oN O) 7 j ≠ -1) (i + 1))), (2, .int (sm (sA (oN O) 5) (i + 1))), (1, .int (sm (sA (oN O) 6) (i + 1))), (13, .int (b2i ((tlS (oN O) (nI i) 7) = 1))), (12, .int (tlS (oN O) (nI i) 4)), (11, .int (tlS (oN O) (nI i) 3)), (10, .int (tlS (oN O) (nI i) 2)), (9, .int (tlS (oN O) (nI i) 1)), (0, .ref (aaX a)), (7, .int 1), (8, .int (nI i))] 326 [.int v0] := by
                          intro v0 hv0
                          subst hv0
                          refine x_iload C 13 dL_isWhole_326 rfl ?_
                          refine x_bipush (v := 10) C dL_isWhole_328 (by decide) ?_
                          refine x_irem C (pk_rem (a := i) (d := 10) (by omega) (by omega) (by omega)) dL_isWhole_330 (by decide) ?_
                          refine x_bipush (v := 7) C dL_isWhole_331 (by decide) ?_
                          have j_341 : ∀ v0 : Int32, v0 = (b2i ((nI (i % 10)) = 7)) → X cx (0, 0) (obW (xG cx) a O) [(4, .int (cnt (fun k => wdS (oN O) k = 0) (i + 1))), (6, .int (cnt (fun j => shr (nI j) = 9) (i + 1))), (5, .int (cnt (fun j => sA (oN O) 3 j ≠ -1) (i + 1))), (3, .int (cnt (fun j => sA (oN O) 7 j ≠ -1) (i + 1))), (2, .int (sm (sA (oN O) 5) (i + 1))), (1, .int (sm (sA (oN O) 6) (i + 1))), (13, .int (b2i ((tlS (oN O) (nI i) 7) = 1))), (12, .int (tlS (oN O) (nI i) 4)), (11, .int (tlS (oN O) (nI i) 3)), (10, .int (tlS (oN O) (nI i) 2)), (9, .int (tlS (oN O) (nI i) 1)), (0, .ref (aaX a)), (7, .int 1), (8, .int (nI i))] 341 [.int v0, .int (b2i ((tlS (oN O) (nI i) 9) = 1))] := by
                            intro v0 hv0
                            subst hv0
                            refine x_icmp_ne C 390 dL_isWhole_341 (by decide) (fun c => absurd (b2i_c (wl_9 hI hk)) c) (fun _ => ?_)
                            refine x_aload_n C 11 dL_isWhole_344 rfl rfl ?_
                            refine x_iload C 13 dL_isWhole_345 rfl ?_
                            refine x_oRO C ([.int (nI i)]) ([]) (a := a) (O := O) (na := 1) gL_isWhole_X6_reason rfl (by decide +kernel) rfl (oX6_reason (xl cx) (xG cx) a O (nI i) (S := oN O) rfl hok) rfl rfl rfl ⟨by decide, by decide⟩ (Nat.le_of_ble_eq_true rfl) ⟨by decide, by decide⟩ dL_isWhole_347 ?_
                            refine x_iload C 6 dL_isWhole_350 rfl ?_
                            have j_383 : ∀ v0 : Int32, v0 = (if tlS (oN O) (nI i) 7 = 1 then 1 else if tlS (oN O) (nI i) 1 < 0 then 2 else if trS (oN O) (tlS (oN O) (nI i) 1) 0 = 0 then 3 else 0) → X cx (0, 0) (obW (xG cx) a O) [(4, .int (cnt (fun k => wdS (oN O) k = 0) (i + 1))), (6, .int (cnt (fun j => shr (nI j) = 9) (i + 1))), (5, .int (cnt (fun j => sA (oN O) 3 j ≠ -1) (i + 1))), (3, .int (cnt (fun j => sA (oN O) 7 j ≠ -1) (i + 1))), (2, .int (sm (sA (oN O) 5) (i + 1))), (1, .int (sm (sA (oN O) 6) (i + 1))), (13, .int (b2i ((tlS (oN O) (nI i) 7) = 1))), (12, .int (tlS (oN O) (nI i) 4)), (11, .int (tlS (oN O) (nI i) 3)), (10, .int (tlS (oN O) (nI i) 2)), (9, .int (tlS (oN O) (nI i) 1)), (0, .ref (aaX a)), (7, .int 1), (8, .int (nI i))] 383 [.int v0, .int (rsnS (oN O) (nI i))] := by
                              intro v0 hv0
                              subst hv0
                              refine x_icmp_ne C 390 dL_isWhole_383 (by decide) (fun c => absurd (wl_10 hI hk) c) (fun _ => ?_)
                              refine x_iconst (v := 1) C dL_isWhole_386 (by decide) ?_
                              refine x_goto (tgt := 391) C dL_isWhole_387 (by decide) ?_
                              refine x_istore C [(7, .int 1), (4, .int (cnt (fun k => wdS (oN O) k = 0) (i + 1))), (6, .int (cnt (fun j => shr (nI j) = 9) (i + 1))), (5, .int (cnt (fun j => sA (oN O) 3 j ≠ -1) (i + 1))), (3, .int (cnt (fun j => sA (oN O) 7 j ≠ -1) (i + 1))), (2, .int (sm (sA (oN O) 5) (i + 1))), (1, .int (sm (sA (oN O) 6) (i + 1))), (13, .int (b2i ((tlS (oN O) (nI i) 7) = 1))), (12, .int (tlS (oN O) (nI i) 4)), (11, .int (tlS (oN O) (nI i) 3)), (10, .int (tlS (oN O) (nI i) 2)), (9, .int (tlS (oN O) (nI i) 1)), (0, .ref (aaX a)), (8, .int (nI i))] dL_isWhole_391 (by decide) rfl ?_
                              refine x_iinc C 13 [(8, .int (nI (i + 1))), (7, .int 1), (4, .int (cnt (fun k => wdS (oN O) k = 0) (i + 1))), (6, .int (cnt (fun j => shr (nI j) = 9) (i + 1))), (5, .int (cnt (fun j => sA (oN O) 3 j ≠ -1) (i + 1))), (3, .int (cnt (fun j => sA (oN O) 7 j ≠ -1) (i + 1))), (2, .int (sm (sA (oN O) 5) (i + 1))), (1, .int (sm (sA (oN O) 6) (i + 1))), (13, .int (b2i ((tlS (oN O) (nI i) 7) = 1))), (12, .int (tlS (oN O) (nI i) 4)), (11, .int (tlS (oN O) (nI i) 3)), (10, .int (tlS (oN O) (nI i) 2)), (9, .int (tlS (oN O) (nI i) 1)), (0, .ref (aaX a))] dL_isWhole_393 rfl (inc1 i) (by decide) rfl ?_
                              refine x_goto (tgt := 21) C dL_isWhole_396 (by decide) ?_
                              refine x_lv [(0, .ref (aaX a)), (1, .int (sm (sA (oN O) 6) (i + 1))), (2, .int (sm (sA (oN O) 5) (i + 1))), (3, .int (cnt (fun j => sA (oN O) 7 j ≠ -1) (i + 1))), (4, .int (cnt (fun k => wdS (oN O) k = 0) (i + 1))), (5, .int (cnt (fun j => sA (oN O) 3 j ≠ -1) (i + 1))), (6, .int (cnt (fun j => shr (nI j) = 9) (i + 1))), (7, .int 1), (8, .int (nI (i + 1)))] [13, 7, 6, 5, 2, 4, 3, 1, 0] rfl ?_
                              exact ih (i + 1) (by omega)
                            refine x_ifb_eq (P := (tlS (oN O) (nI i) 7) = 1) C 359 dL_isWhole_352 (by decide) (fun c_352 => ?_) (fun c_352 => ?_)
                            ·
                              refine x_iload C 10 dL_isWhole_359 rfl ?_
                              refine x_if_ge C 368 dL_isWhole_361 (by decide) (fun c_361 => ?_) (fun c_361 => ?_)
                              ·
                                refine x_aload_n C 11 dL_isWhole_368 rfl rfl ?_
                                refine x_iload C 10 dL_isWhole_369 rfl ?_
                                refine x_iconst (v := 0) C dL_isWhole_371 (by decide) ?_
                                refine x_oRO C ([.int (tlS (oN O) (nI i) 1), .int 0]) ([.int (rsnS (oN O) (nI i))]) (a := a) (O := O) (na := 2) gL_isWhole_X6_rack rfl (by decide +kernel) rfl (oX6_rack (xl cx) (xG cx) a O (tlS (oN O) (nI i) 1) 0 (S := oN O) rfl hok) rfl rfl rfl ⟨by decide, by decide⟩ (Nat.le_of_ble_eq_true rfl) ⟨by decide, by decide⟩ dL_isWhole_372 ?_
                                refine x_if_ne C 382 dL_isWhole_375 (by decide) (fun c_375 => ?_) (fun c_375 => ?_)
                                ·
                                  refine x_iconst (v := 0) C dL_isWhole_382 (by decide) ?_
                                  exact j_383 _ (((if_neg c_352).trans ((if_neg (Int32.not_lt.mpr c_361)).trans (if_neg c_375))).symm)
                                ·
                                  refine x_iconst (v := 3) C dL_isWhole_378 (by decide) ?_
                                  refine x_goto (tgt := 383) C dL_isWhole_379 (by decide) ?_
                                  exact j_383 _ (((if_neg c_352).trans ((if_neg (Int32.not_lt.mpr c_361)).trans (if_pos c_375))).symm)
                              ·
                                refine x_iconst (v := 2) C dL_isWhole_364 (by decide) ?_
                                refine x_goto (tgt := 383) C dL_isWhole_365 (by decide) ?_
                                exact j_383 _ (((if_neg c_352).trans (if_pos (Int32.not_le.mp c_361))).symm)
                            ·
                              refine x_iconst (v := 1) C dL_isWhole_355 (by decide) ?_
                              refine x_goto (tgt := 383) C dL_isWhole_356 (by decide) ?_
                              exact j_383 _ ((if_pos c_352).symm)
                          refine x_icmp_ne C 340 dL_isWhole_333 (by decide) (fun c_333 => ?_) (fun c_333 => ?_)
                          ·
                            refine x_iconst (v := 0) C dL_isWhole_340 (by decide) ?_
                            exact j_341 _ ((b2i_f c_333).symm)
                          ·
                            refine x_iconst (v := 1) C dL_isWhole_336 (by decide) ?_
                            refine x_goto (tgt := 341) C dL_isWhole_337 (by decide) ?_
                            exact j_341 _ ((b2i_t c_333).symm)
                        refine x_icmp_ne C 325 dL_isWhole_318 (by decide) (fun c_318 => ?_) (fun c_318 => ?_)
                        ·
                          refine x_iconst (v := 0) C dL_isWhole_325 (by decide) ?_
                          exact j_326 _ ((b2i_f c_318).symm)
                        ·
                          refine x_iconst (v := 1) C dL_isWhole_321 (by decide) ?_
                          refine x_goto (tgt := 326) C dL_isWhole_322 (by decide) ?_
                          exact j_326 _ ((b2i_t c_318).symm)
                      refine x_ifb_eq (P := (tlS (oN O) (nI i) 7) = 1) C 295 dL_isWhole_262 (by decide) (fun c_262 => ?_) (fun c_262 => ?_)
                      ·
                        refine x_aload_n C 11 dL_isWhole_295 rfl rfl ?_
                        refine x_iload C 13 dL_isWhole_296 rfl ?_
                        refine x_bipush (v := 8) C dL_isWhole_298 (by decide) ?_
                        refine x_oRO C ([.int (nI i), .int 8]) ([]) (a := a) (O := O) (na := 2) gL_isWhole_X6_lamp rfl (by decide +kernel) rfl (oX6_lamp (xl cx) (xG cx) a O (nI i) 8 (S := oN O) rfl hok) rfl rfl rfl ⟨by decide, by decide⟩ (Nat.le_of_ble_eq_true rfl) ⟨by decide, by decide⟩ dL_isWhole_300 ?_
                        refine x_sipush (v := (-1005)) C dL_isWhole_303 (by decide) ?_
                        refine x_icmp_ne C 390 dL_isWhole_306 (by decide) (fun c => absurd (wl_8n hI hk c_262) c) (fun _ => ?_)
                        exact j_309
                      ·
                        refine x_aload_n C 11 dL_isWhole_265 rfl rfl ?_
                        refine x_iload C 13 dL_isWhole_266 rfl ?_
                        refine x_bipush (v := 8) C dL_isWhole_268 (by decide) ?_
                        refine x_oRO C ([.int (nI i), .int 8]) ([]) (a := a) (O := O) (na := 2) gL_isWhole_X6_lamp rfl (by decide +kernel) rfl (oX6_lamp (xl cx) (xG cx) a O (nI i) 8 (S := oN O) rfl hok) rfl rfl rfl ⟨by decide, by decide⟩ (Nat.le_of_ble_eq_true rfl) ⟨by decide, by decide⟩ dL_isWhole_270 ?_
                        refine x_if_le C 390 dL_isWhole_273 (by decide) (fun c => absurd c (Int32.not_le.mpr (wl_8 hI hk c_262).1)) (fun _ => ?_)
                        refine x_aload_n C 11 dL_isWhole_276 rfl rfl ?_
                        refine x_iload C 13 dL_isWhole_277 rfl ?_
                        refine x_bipush (v := 8) C dL_isWhole_279 (by decide) ?_
                        refine x_oRO C ([.int (nI i), .int 8]) ([]) (a := a) (O := O) (na := 2) gL_isWhole_X6_lamp rfl (by decide +kernel) rfl (oX6_lamp (xl cx) (xG cx) a O (nI i) 8 (S := oN O) rfl hok) rfl rfl rfl ⟨by decide, by decide⟩ (Nat.le_of_ble_eq_true rfl) ⟨by decide, by decide⟩ dL_isWhole_281 ?_
                        refine x_aload_n C 11 dL_isWhole_284 rfl rfl ?_
                        refine x_iconst (v := 0) C dL_isWhole_285 (by decide) ?_
                        refine x_oRO C ([.int 0]) ([.int (tlS (oN O) (nI i) 8)]) (a := a) (O := O) (na := 1) gL_isWhole_X6_count rfl (by decide +kernel) rfl (oX6_count (xl cx) (xG cx) a O 0 (S := oN O) rfl hok) rfl rfl rfl ⟨by decide, by decide⟩ (Nat.le_of_ble_eq_true rfl) ⟨by decide, by decide⟩ dL_isWhole_286 ?_
                        refine x_top (y := taS (oN O) 0) (rfl) ?_
                        refine x_icmp_gt C 390 dL_isWhole_289 (by decide) (fun c => absurd c (Int32.not_lt.mpr (wl_8 hI hk c_262).2)) (fun _ => ?_)
                        refine x_goto (tgt := 309) C dL_isWhole_292 (by decide) ?_
                        exact j_309
                    refine x_icmp_lt C 228 dL_isWhole_221 (by decide) (fun c_221 => ?_) (fun c_221 => ?_)
                    ·
                      refine x_iconst (v := 0) C dL_isWhole_228 (by decide) ?_
                      exact j_229 _ ((b2i_f (fun z => z c_221)).symm)
                    ·
                      refine x_iconst (v := 1) C dL_isWhole_224 (by decide) ?_
                      refine x_goto (tgt := 229) C dL_isWhole_225 (by decide) ?_
                      exact j_229 _ ((b2i_t c_221).symm)
                  refine x_if_lt C 207 dL_isWhole_191 (by decide) (fun c_191 => ?_) (fun c_191 => ?_)
                  ·
                    exact j_207
                  ·
                    refine x_aload_n C 11 dL_isWhole_194 rfl rfl ?_
                    refine x_iload C 10 dL_isWhole_195 rfl ?_
                    refine x_iload C 9 dL_isWhole_197 rfl ?_
                    refine x_oRO C ([.int (tlS (oN O) (nI i) 1), .int (tlS (oN O) (nI i) 2)]) ([]) (a := a) (O := O) (na := 2) gL_isWhole_X6_at rfl (by decide +kernel) rfl (oX6_at (xl cx) (xG cx) a O (tlS (oN O) (nI i) 1) (tlS (oN O) (nI i) 2) (S := oN O) rfl hok) rfl rfl rfl ⟨by decide, by decide⟩ (Nat.le_of_ble_eq_true rfl) ⟨by decide, by decide⟩ dL_isWhole_199 ?_
                    refine x_iload C 13 dL_isWhole_202 rfl ?_
                    refine x_icmp_ne C 390 dL_isWhole_204 (by decide) (fun c => absurd (wl_2 hI hk c_191) c) (fun _ => ?_)
                    exact j_207
                refine x_if_ge C 185 dL_isWhole_178 (by decide) (fun c_178 => ?_) (fun c_178 => ?_)
                ·
                  refine x_iconst (v := 0) C dL_isWhole_185 (by decide) ?_
                  exact j_186 _ ((b2i_f (fun z => z c_178)).symm)
                ·
                  refine x_iconst (v := 1) C dL_isWhole_181 (by decide) ?_
                  refine x_goto (tgt := 186) C dL_isWhole_182 (by decide) ?_
                  exact j_186 _ ((b2i_t c_178).symm)
              refine x_if_ge C 175 dL_isWhole_168 (by decide) (fun c_168 => ?_) (fun c_168 => ?_)
              ·
                refine x_iconst (v := 0) C dL_isWhole_175 (by decide) ?_
                exact j_176 _ ((b2i_f (fun z => z c_168)).symm)
              ·
                refine x_iconst (v := 1) C dL_isWhole_171 (by decide) ?_
                refine x_goto (tgt := 176) C dL_isWhole_172 (by decide) ?_
                exact j_176 _ ((b2i_t c_168).symm)
            refine x_if_ne C 162 dL_isWhole_155 (by decide) (fun c_155 => ?_) (fun c_155 => ?_)
            ·
              refine x_iconst (v := 0) C dL_isWhole_162 (by decide) ?_
              exact j_163 _ ((b2i_f c_155).symm)
            ·
              refine x_iconst (v := 1) C dL_isWhole_158 (by decide) ?_
              refine x_goto (tgt := 163) C dL_isWhole_159 (by decide) ?_
              exact j_163 _ ((b2i_t c_155).symm)
          refine x_if_lt C 130 dL_isWhole_123 (by decide) (fun c_123 => ?_) (fun c_123 => ?_)
          ·
            refine x_iconst (v := 0) C dL_isWhole_130 (by decide) ?_
            exact j_131 _ ((b2i_f (fun z => z c_123)).symm)
          ·
            refine x_iconst (v := 1) C dL_isWhole_126 (by decide) ?_
            refine x_goto (tgt := 131) C dL_isWhole_127 (by decide) ?_
            exact j_131 _ ((b2i_t c_123).symm)
        refine x_ifb_eq (P := (tlS (oN O) (nI i) 7) = 1) C 116 dL_isWhole_109 (by decide) (fun c_109 => ?_) (fun c_109 => ?_)
        ·
          refine x_iconst (v := 0) C dL_isWhole_116 (by decide) ?_
          exact j_117 _ ((b2i_f c_109).symm)
        ·
          refine x_iconst (v := 1) C dL_isWhole_112 (by decide) ?_
          refine x_goto (tgt := 117) C dL_isWhole_113 (by decide) ?_
          exact j_117 _ ((b2i_t c_109).symm)
      refine x_icmp_ne C 88 dL_isWhole_81 (by decide) (fun c_81 => ?_) (fun c_81 => ?_)
      ·
        refine x_iconst (v := 0) C dL_isWhole_88 (by decide) ?_
        exact j_89 _ ((b2i_f c_81).symm)
      ·
        refine x_iconst (v := 1) C dL_isWhole_84 (by decide) ?_
        refine x_goto (tgt := 89) C dL_isWhole_85 (by decide) ?_
        exact j_89 _ ((b2i_t c_81).symm)
  refine x_lv [(0, .ref (aaX a)), (1, .int (sm (sA (oN O) 6) 0)), (2, .int (sm (sA (oN O) 5) 0)), (3, .int (cnt (fun j => sA (oN O) 7 j ≠ -1) 0)), (4, .int (cnt (fun k => wdS (oN O) k = 0) 0)), (5, .int (cnt (fun j => sA (oN O) 3 j ≠ -1) 0)), (6, .int (cnt (fun j => shr (nI j) = 9) 0)), (7, .int 1), (8, .int (nI 0))] [8, 7, 6, 5, 4, 3, 2, 1, 0] rfl ?_
  exact lp_21 (sN (oN O)) 0 (by omega)
