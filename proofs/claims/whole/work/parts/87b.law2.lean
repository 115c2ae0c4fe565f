/-! the law's instructions: cases 8 to 14 -/
theorem w_484 : (.codeWith yL_error cL_error 4 (some .int) [(0, 16, 19, 15)] : Cond) ∈ TB := TB_mem (List.mem_of_getElem? (i := 484) (by decide +kernel)) rfl
theorem w_491 : (.codeWith yL_vow cL_vow 7 (some .int) [(0, 14, 17, 13), (0, 14, 21, 15), (0, 14, 25, 17)] : Cond) ∈ TB := TB_mem (List.mem_of_getElem? (i := 491) (by decide +kernel)) rfl
theorem w_540 : (.codeWith yL_heal cL_heal 3 (some .int) [(0, 5, 8, 13), (0, 5, 11, 17)] : Cond) ∈ TB := TB_mem (List.mem_of_getElem? (i := 540) (by decide +kernel)) rfl
theorem w_563 : (.codeWith yL_grace cL_grace 3 (some .int) [(0, 5, 8, 13), (0, 5, 11, 17)] : Cond) ∈ TB := TB_mem (List.mem_of_getElem? (i := 563) (by decide +kernel)) rfl
theorem w_579 : (.codeWith yL_documents cL_documents 4 (some .int) [(0, 9, 12, 13), (0, 9, 15, 17)] : Cond) ∈ TB := TB_mem (List.mem_of_getElem? (i := 579) (by decide +kernel)) rfl
theorem w_590 : (.codeWith yL_cause cL_cause 7 (some .int) [(0, 14, 17, 13), (0, 14, 21, 15), (0, 14, 25, 17)] : Cond) ∈ TB := TB_mem (List.mem_of_getElem? (i := 590) (by decide +kernel)) rfl
theorem w_643 : (.codeWith yL_doubt cL_doubt 5 (some .int) [(0, 10, 13, 13), (0, 10, 17, 15), (0, 10, 21, 17)] : Cond) ∈ TB := TB_mem (List.mem_of_getElem? (i := 643) (by decide +kernel)) rfl
theorem dL_law_671 : decode cL_law 671 = .ok (.aload_n 1, 1) := by decide +kernel
theorem dL_law_672 : decode cL_law 672 = .ok (.aload_n 0, 1) := by decide +kernel
theorem dL_law_673 : decode cL_law 673 = .ok (.iload 4, 2) := by decide +kernel
theorem dL_law_675 : decode cL_law 675 = .ok (.iconst 1, 1) := by decide +kernel
theorem dL_law_676 : decode cL_law 676 = .ok (.iadd, 1) := by decide +kernel
theorem dL_law_677 : decode cL_law 677 = .ok (.iaload, 1) := by decide +kernel
theorem dL_law_678 : decode cL_law 678 = .ok (.aload_n 3, 1) := by decide +kernel
theorem dL_law_679 : decode cL_law 679 = .ok (.invokestatic 151, 3) := by decide +kernel
theorem dL_law_682 : decode cL_law 682 = .ok (.istore 5, 2) := by decide +kernel
theorem dL_law_684 : decode cL_law 684 = .ok (.aload_n 2, 1) := by decide +kernel
theorem dL_law_685 : decode cL_law 685 = .ok (.aload_n 0, 1) := by decide +kernel
theorem dL_law_686 : decode cL_law 686 = .ok (.iload 4, 2) := by decide +kernel
theorem dL_law_688 : decode cL_law 688 = .ok (.iconst 1, 1) := by decide +kernel
theorem dL_law_689 : decode cL_law 689 = .ok (.iadd, 1) := by decide +kernel
theorem dL_law_690 : decode cL_law 690 = .ok (.iaload, 1) := by decide +kernel
theorem dL_law_691 : decode cL_law 691 = .ok (.invokevirtual 153, 3) := by decide +kernel
theorem dL_law_694 : decode cL_law 694 = .ok (.istore 6, 2) := by decide +kernel
theorem dL_law_696 : decode cL_law 696 = .ok (.aload_n 2, 1) := by decide +kernel
theorem dL_law_697 : decode cL_law 697 = .ok (.invokevirtual 122, 3) := by decide +kernel
theorem dL_law_700 : decode cL_law 700 = .ok (.iload 5, 2) := by decide +kernel
theorem dL_law_702 : decode cL_law 702 = .ok (.if_icmp .eq 5, 3) := by decide +kernel
theorem dL_law_705 : decode cL_law 705 = .ok (.iconst 0, 1) := by decide +kernel
theorem dL_law_706 : decode cL_law 706 = .ok (.ireturn, 1) := by decide +kernel
theorem dL_law_707 : decode cL_law 707 = .ok (.iload 5, 2) := by decide +kernel
theorem dL_law_709 : decode cL_law 709 = .ok (.ifCond .ne 22, 3) := by decide +kernel
theorem dL_law_712 : decode cL_law 712 = .ok (.aload_n 3, 1) := by decide +kernel
theorem dL_law_713 : decode cL_law 713 = .ok (.iconst 0, 1) := by decide +kernel
theorem dL_law_714 : decode cL_law 714 = .ok (.laload, 1) := by decide +kernel
theorem dL_law_715 : decode cL_law 715 = .ok (.iload 6, 2) := by decide +kernel
theorem dL_law_717 : decode cL_law 717 = .ok (.ifCond .eq 7, 3) := by decide +kernel
theorem dL_law_720 : decode cL_law 720 = .ok (.lconst 1, 1) := by decide +kernel
theorem dL_law_721 : decode cL_law 721 = .ok (.goto 4, 3) := by decide +kernel
theorem dL_law_724 : decode cL_law 724 = .ok (.lconst 0, 1) := by decide +kernel
theorem dL_law_725 : decode cL_law 725 = .ok (.lcmp, 1) := by decide +kernel
theorem dL_law_726 : decode cL_law 726 = .ok (.ifCond .eq 5, 3) := by decide +kernel
theorem dL_law_729 : decode cL_law 729 = .ok (.iconst 0, 1) := by decide +kernel
theorem dL_law_730 : decode cL_law 730 = .ok (.ireturn, 1) := by decide +kernel
theorem dL_law_731 : decode cL_law 731 = .ok (.goto 1314, 3) := by decide +kernel
def tab_lawC8 (L : Nat) (xs : Nat → Int32) : List (Nat × Sem) := [(671, op_al 1 672), (672, op_al 0 673), (673, op_il 4 675), (675, op_ic 1 676), (676, op_bin (fun x y => x + y) 677), (677, op_sld L xs 678), (678, op_al 3 679), (679, op_callL sp_L_error 3 1 682), (682, op_is 5 684), (684, op_al 2 685), (685, op_al 0 686), (686, op_il 4 688), (688, op_ic 1 689), (689, op_bin (fun x y => x + y) 690), (690, op_sld L xs 691), (691, op_callVN 7 sp_X5_error 2 0 694), (694, op_is 6 696), (696, op_al 2 697), (697, op_callV 7 sp_X5_thrown 1 0 700), (700, op_il 5 702), (702, op_cmp (fun x y => x = y) 707 705), (705, op_ic 0 706), (706, op_lret), (707, op_il 5 709), (709, op_if (fun x => ¬ x = 0) 731 712), (712, op_al 3 713), (713, op_ic 0 714), (714, op_lald 715), (715, op_il 6 717), (717, op_if (fun x => x = 0) 724 720), (720, op_lc 1 721), (721, op_go 725), (724, op_lc 0 725), (725, op_lcmp 726), (726, op_if (fun x => x = 0) 731 729), (729, op_ic 0 730), (730, op_lret), (731, op_go 2045)]
set_option maxRecDepth 20000 in
theorem tok_lawC8 {L : Nat} {xs : Nat → Int32} : ∀ q ∈ tab_lawC8 L xs, LSnd L xs RL cL_law 7 15 150256 ret q.1 q.2 := by
  unfold tab_lawC8
  refine lcons (lsnd_g (snd_g (ok_aload_n dL_law_671 rfl rfl))) ?_
  refine lcons (lsnd_g (snd_g (ok_aload_n dL_law_672 rfl rfl))) ?_
  refine lcons (lsnd_g (snd_g (ok_iload dL_law_673 rfl))) ?_
  refine lcons (lsnd_g (snd_g (ok_iconst dL_law_675 rfl rfl))) ?_
  refine lcons (lsnd_g (snd_g (ok_iadd dL_law_676 rfl))) ?_
  refine lcons (ok_sld dL_law_677 rfl) ?_
  refine lcons (lsnd_g (snd_g (ok_aload_n dL_law_678 rfl rfl))) ?_
  refine lcons (ok_callL M_L_error w_482 w_483 w_42 w_484 ⟨by decide, by decide, by decide +kernel⟩ (by decide) (by decide) dL_law_679 rfl) ?_
  refine lcons (lsnd_g (snd_g (ok_istore dL_law_682 (by decide) rfl))) ?_
  refine lcons (lsnd_g (snd_g (ok_aload_n dL_law_684 rfl rfl))) ?_
  refine lcons (lsnd_g (snd_g (ok_aload_n dL_law_685 rfl rfl))) ?_
  refine lcons (lsnd_g (snd_g (ok_iload dL_law_686 rfl))) ?_
  refine lcons (lsnd_g (snd_g (ok_iconst dL_law_688 rfl rfl))) ?_
  refine lcons (lsnd_g (snd_g (ok_iadd dL_law_689 rfl))) ?_
  refine lcons (ok_sld dL_law_690 rfl) ?_
  refine lcons (lsnd_g (snd_g (ok_invokevirtualN M_X5_error (C := RX5) (T := TX5) (nf := 33) rfl w_1174 w_1175 w_1176 w_49 w_1177 ⟨rfl, by decide, by decide, by decide +kernel⟩ (by decide) (by decide) dL_law_691 rfl))) ?_
  refine lcons (lsnd_g (snd_g (ok_istore dL_law_694 (by decide) rfl))) ?_
  refine lcons (lsnd_g (snd_g (ok_aload_n dL_law_696 rfl rfl))) ?_
  refine lcons (lsnd_g (snd_g (ok_invokevirtual M_X5_thrown (C := RX5) (T := TX5) (nf := 33) rfl w_1093 w_1094 w_1095 w_49 w_1096 ⟨rfl, by decide, by decide, by decide +kernel⟩ (by decide) (by decide) dL_law_697 rfl))) ?_
  refine lcons (lsnd_g (snd_g (ok_iload dL_law_700 rfl))) ?_
  refine lcons (lsnd_g (snd_g (ok_icmp_eq dL_law_702 rfl rfl))) ?_
  refine lcons (lsnd_g (snd_g (ok_iconst dL_law_705 rfl rfl))) ?_
  refine lcons (ok_lret dL_law_706) ?_
  refine lcons (lsnd_g (snd_g (ok_iload dL_law_707 rfl))) ?_
  refine lcons (lsnd_g (snd_g (ok_if_ne dL_law_709 rfl rfl))) ?_
  refine lcons (lsnd_g (snd_g (ok_aload_n dL_law_712 rfl rfl))) ?_
  refine lcons (lsnd_g (snd_g (ok_iconst dL_law_713 rfl rfl))) ?_
  refine lcons (lsnd_g (snd_g (ok_laload dL_law_714 rfl))) ?_
  refine lcons (lsnd_g (snd_g (ok_iload dL_law_715 rfl))) ?_
  refine lcons (lsnd_g (snd_g (ok_if_eq dL_law_717 rfl rfl))) ?_
  refine lcons (lsnd_g (snd_g (ok_lconst dL_law_720 rfl rfl))) ?_
  refine lcons (lsnd_g (snd_g (ok_goto dL_law_721 rfl))) ?_
  refine lcons (lsnd_g (snd_g (ok_lconst dL_law_724 rfl rfl))) ?_
  refine lcons (lsnd_g (snd_g (ok_lcmp dL_law_725 rfl))) ?_
  refine lcons (lsnd_g (snd_g (ok_if_eq dL_law_726 rfl rfl))) ?_
  refine lcons (lsnd_g (snd_g (ok_iconst dL_law_729 rfl rfl))) ?_
  refine lcons (ok_lret dL_law_730) ?_
  refine lcons (lsnd_g (snd_g (ok_goto dL_law_731 rfl))) ?_
  exact fun _ h => nomatch h
theorem dL_law_734 : decode cL_law 734 = .ok (.aload_n 1, 1) := by decide +kernel
theorem dL_law_735 : decode cL_law 735 = .ok (.aload_n 0, 1) := by decide +kernel
theorem dL_law_736 : decode cL_law 736 = .ok (.iload 4, 2) := by decide +kernel
theorem dL_law_738 : decode cL_law 738 = .ok (.iconst 1, 1) := by decide +kernel
theorem dL_law_739 : decode cL_law 739 = .ok (.iadd, 1) := by decide +kernel
theorem dL_law_740 : decode cL_law 740 = .ok (.iaload, 1) := by decide +kernel
theorem dL_law_741 : decode cL_law 741 = .ok (.aload_n 0, 1) := by decide +kernel
theorem dL_law_742 : decode cL_law 742 = .ok (.iload 4, 2) := by decide +kernel
theorem dL_law_744 : decode cL_law 744 = .ok (.iconst 2, 1) := by decide +kernel
theorem dL_law_745 : decode cL_law 745 = .ok (.iadd, 1) := by decide +kernel
theorem dL_law_746 : decode cL_law 746 = .ok (.iaload, 1) := by decide +kernel
theorem dL_law_747 : decode cL_law 747 = .ok (.aload_n 0, 1) := by decide +kernel
theorem dL_law_748 : decode cL_law 748 = .ok (.iload 4, 2) := by decide +kernel
theorem dL_law_750 : decode cL_law 750 = .ok (.iconst 3, 1) := by decide +kernel
theorem dL_law_751 : decode cL_law 751 = .ok (.iadd, 1) := by decide +kernel
theorem dL_law_752 : decode cL_law 752 = .ok (.iaload, 1) := by decide +kernel
theorem dL_law_753 : decode cL_law 753 = .ok (.aload_n 0, 1) := by decide +kernel
theorem dL_law_754 : decode cL_law 754 = .ok (.iload 4, 2) := by decide +kernel
theorem dL_law_756 : decode cL_law 756 = .ok (.iconst 4, 1) := by decide +kernel
theorem dL_law_757 : decode cL_law 757 = .ok (.iadd, 1) := by decide +kernel
theorem dL_law_758 : decode cL_law 758 = .ok (.iaload, 1) := by decide +kernel
theorem dL_law_759 : decode cL_law 759 = .ok (.aload_n 3, 1) := by decide +kernel
theorem dL_law_760 : decode cL_law 760 = .ok (.invokestatic 154, 3) := by decide +kernel
theorem dL_law_763 : decode cL_law 763 = .ok (.istore 5, 2) := by decide +kernel
theorem dL_law_765 : decode cL_law 765 = .ok (.aload_n 2, 1) := by decide +kernel
theorem dL_law_766 : decode cL_law 766 = .ok (.aload_n 0, 1) := by decide +kernel
theorem dL_law_767 : decode cL_law 767 = .ok (.iload 4, 2) := by decide +kernel
theorem dL_law_769 : decode cL_law 769 = .ok (.iconst 1, 1) := by decide +kernel
theorem dL_law_770 : decode cL_law 770 = .ok (.iadd, 1) := by decide +kernel
theorem dL_law_771 : decode cL_law 771 = .ok (.iaload, 1) := by decide +kernel
theorem dL_law_772 : decode cL_law 772 = .ok (.aload_n 0, 1) := by decide +kernel
theorem dL_law_773 : decode cL_law 773 = .ok (.iload 4, 2) := by decide +kernel
theorem dL_law_775 : decode cL_law 775 = .ok (.iconst 2, 1) := by decide +kernel
theorem dL_law_776 : decode cL_law 776 = .ok (.iadd, 1) := by decide +kernel
theorem dL_law_777 : decode cL_law 777 = .ok (.iaload, 1) := by decide +kernel
theorem dL_law_778 : decode cL_law 778 = .ok (.aload_n 0, 1) := by decide +kernel
theorem dL_law_779 : decode cL_law 779 = .ok (.iload 4, 2) := by decide +kernel
theorem dL_law_781 : decode cL_law 781 = .ok (.iconst 3, 1) := by decide +kernel
theorem dL_law_782 : decode cL_law 782 = .ok (.iadd, 1) := by decide +kernel
theorem dL_law_783 : decode cL_law 783 = .ok (.iaload, 1) := by decide +kernel
theorem dL_law_784 : decode cL_law 784 = .ok (.aload_n 0, 1) := by decide +kernel
theorem dL_law_785 : decode cL_law 785 = .ok (.iload 4, 2) := by decide +kernel
theorem dL_law_787 : decode cL_law 787 = .ok (.iconst 4, 1) := by decide +kernel
theorem dL_law_788 : decode cL_law 788 = .ok (.iadd, 1) := by decide +kernel
theorem dL_law_789 : decode cL_law 789 = .ok (.iaload, 1) := by decide +kernel
theorem dL_law_790 : decode cL_law 790 = .ok (.invokevirtual 156, 3) := by decide +kernel
theorem dL_law_793 : decode cL_law 793 = .ok (.istore 6, 2) := by decide +kernel
theorem dL_law_795 : decode cL_law 795 = .ok (.aload_n 2, 1) := by decide +kernel
theorem dL_law_796 : decode cL_law 796 = .ok (.invokevirtual 122, 3) := by decide +kernel
theorem dL_law_799 : decode cL_law 799 = .ok (.iload 5, 2) := by decide +kernel
theorem dL_law_801 : decode cL_law 801 = .ok (.if_icmp .eq 5, 3) := by decide +kernel
theorem dL_law_804 : decode cL_law 804 = .ok (.iconst 0, 1) := by decide +kernel
theorem dL_law_805 : decode cL_law 805 = .ok (.ireturn, 1) := by decide +kernel
theorem dL_law_806 : decode cL_law 806 = .ok (.iload 5, 2) := by decide +kernel
theorem dL_law_808 : decode cL_law 808 = .ok (.ifCond .ne 15, 3) := by decide +kernel
theorem dL_law_811 : decode cL_law 811 = .ok (.aload_n 3, 1) := by decide +kernel
theorem dL_law_812 : decode cL_law 812 = .ok (.iconst 0, 1) := by decide +kernel
theorem dL_law_813 : decode cL_law 813 = .ok (.laload, 1) := by decide +kernel
theorem dL_law_814 : decode cL_law 814 = .ok (.iload 6, 2) := by decide +kernel
theorem dL_law_816 : decode cL_law 816 = .ok (.i2l, 1) := by decide +kernel
theorem dL_law_817 : decode cL_law 817 = .ok (.lcmp, 1) := by decide +kernel
theorem dL_law_818 : decode cL_law 818 = .ok (.ifCond .eq 5, 3) := by decide +kernel
theorem dL_law_821 : decode cL_law 821 = .ok (.iconst 0, 1) := by decide +kernel
theorem dL_law_822 : decode cL_law 822 = .ok (.ireturn, 1) := by decide +kernel
theorem dL_law_823 : decode cL_law 823 = .ok (.goto 1222, 3) := by decide +kernel
def tab_lawC9 (L : Nat) (xs : Nat → Int32) : List (Nat × Sem) := [(734, op_al 1 735), (735, op_al 0 736), (736, op_il 4 738), (738, op_ic 1 739), (739, op_bin (fun x y => x + y) 740), (740, op_sld L xs 741), (741, op_al 0 742), (742, op_il 4 744), (744, op_ic 2 745), (745, op_bin (fun x y => x + y) 746), (746, op_sld L xs 747), (747, op_al 0 748), (748, op_il 4 750), (750, op_ic 3 751), (751, op_bin (fun x y => x + y) 752), (752, op_sld L xs 753), (753, op_al 0 754), (754, op_il 4 756), (756, op_ic 4 757), (757, op_bin (fun x y => x + y) 758), (758, op_sld L xs 759), (759, op_al 3 760), (760, op_callL sp_L_vow 6 13 763), (763, op_is 5 765), (765, op_al 2 766), (766, op_al 0 767), (767, op_il 4 769), (769, op_ic 1 770), (770, op_bin (fun x y => x + y) 771), (771, op_sld L xs 772), (772, op_al 0 773), (773, op_il 4 775), (775, op_ic 2 776), (776, op_bin (fun x y => x + y) 777), (777, op_sld L xs 778), (778, op_al 0 779), (779, op_il 4 781), (781, op_ic 3 782), (782, op_bin (fun x y => x + y) 783), (783, op_sld L xs 784), (784, op_al 0 785), (785, op_il 4 787), (787, op_ic 4 788), (788, op_bin (fun x y => x + y) 789), (789, op_sld L xs 790), (790, op_callVN 7 sp_X5_vow 5 0 793), (793, op_is 6 795), (795, op_al 2 796), (796, op_callV 7 sp_X5_thrown 1 0 799), (799, op_il 5 801), (801, op_cmp (fun x y => x = y) 806 804), (804, op_ic 0 805), (805, op_lret), (806, op_il 5 808), (808, op_if (fun x => ¬ x = 0) 823 811), (811, op_al 3 812), (812, op_ic 0 813), (813, op_lald 814), (814, op_il 6 816), (816, op_i2l 817), (817, op_lcmp 818), (818, op_if (fun x => x = 0) 823 821), (821, op_ic 0 822), (822, op_lret), (823, op_go 2045)]
set_option maxRecDepth 20000 in
theorem tok_lawC9 {L : Nat} {xs : Nat → Int32} : ∀ q ∈ tab_lawC9 L xs, LSnd L xs RL cL_law 7 15 150256 ret q.1 q.2 := by
  unfold tab_lawC9
  refine lcons (lsnd_g (snd_g (ok_aload_n dL_law_734 rfl rfl))) ?_
  refine lcons (lsnd_g (snd_g (ok_aload_n dL_law_735 rfl rfl))) ?_
  refine lcons (lsnd_g (snd_g (ok_iload dL_law_736 rfl))) ?_
  refine lcons (lsnd_g (snd_g (ok_iconst dL_law_738 rfl rfl))) ?_
  refine lcons (lsnd_g (snd_g (ok_iadd dL_law_739 rfl))) ?_
  refine lcons (ok_sld dL_law_740 rfl) ?_
  refine lcons (lsnd_g (snd_g (ok_aload_n dL_law_741 rfl rfl))) ?_
  refine lcons (lsnd_g (snd_g (ok_iload dL_law_742 rfl))) ?_
  refine lcons (lsnd_g (snd_g (ok_iconst dL_law_744 rfl rfl))) ?_
  refine lcons (lsnd_g (snd_g (ok_iadd dL_law_745 rfl))) ?_
  refine lcons (ok_sld dL_law_746 rfl) ?_
  refine lcons (lsnd_g (snd_g (ok_aload_n dL_law_747 rfl rfl))) ?_
  refine lcons (lsnd_g (snd_g (ok_iload dL_law_748 rfl))) ?_
  refine lcons (lsnd_g (snd_g (ok_iconst dL_law_750 rfl rfl))) ?_
  refine lcons (lsnd_g (snd_g (ok_iadd dL_law_751 rfl))) ?_
  refine lcons (ok_sld dL_law_752 rfl) ?_
  refine lcons (lsnd_g (snd_g (ok_aload_n dL_law_753 rfl rfl))) ?_
  refine lcons (lsnd_g (snd_g (ok_iload dL_law_754 rfl))) ?_
  refine lcons (lsnd_g (snd_g (ok_iconst dL_law_756 rfl rfl))) ?_
  refine lcons (lsnd_g (snd_g (ok_iadd dL_law_757 rfl))) ?_
  refine lcons (ok_sld dL_law_758 rfl) ?_
  refine lcons (lsnd_g (snd_g (ok_aload_n dL_law_759 rfl rfl))) ?_
  refine lcons (ok_callL M_L_vow w_489 w_490 w_42 w_491 ⟨by decide, by decide, by decide +kernel⟩ (by decide) (by decide) dL_law_760 rfl) ?_
  refine lcons (lsnd_g (snd_g (ok_istore dL_law_763 (by decide) rfl))) ?_
  refine lcons (lsnd_g (snd_g (ok_aload_n dL_law_765 rfl rfl))) ?_
  refine lcons (lsnd_g (snd_g (ok_aload_n dL_law_766 rfl rfl))) ?_
  refine lcons (lsnd_g (snd_g (ok_iload dL_law_767 rfl))) ?_
  refine lcons (lsnd_g (snd_g (ok_iconst dL_law_769 rfl rfl))) ?_
  refine lcons (lsnd_g (snd_g (ok_iadd dL_law_770 rfl))) ?_
  refine lcons (ok_sld dL_law_771 rfl) ?_
  refine lcons (lsnd_g (snd_g (ok_aload_n dL_law_772 rfl rfl))) ?_
  refine lcons (lsnd_g (snd_g (ok_iload dL_law_773 rfl))) ?_
  refine lcons (lsnd_g (snd_g (ok_iconst dL_law_775 rfl rfl))) ?_
  refine lcons (lsnd_g (snd_g (ok_iadd dL_law_776 rfl))) ?_
  refine lcons (ok_sld dL_law_777 rfl) ?_
  refine lcons (lsnd_g (snd_g (ok_aload_n dL_law_778 rfl rfl))) ?_
  refine lcons (lsnd_g (snd_g (ok_iload dL_law_779 rfl))) ?_
  refine lcons (lsnd_g (snd_g (ok_iconst dL_law_781 rfl rfl))) ?_
  refine lcons (lsnd_g (snd_g (ok_iadd dL_law_782 rfl))) ?_
  refine lcons (ok_sld dL_law_783 rfl) ?_
  refine lcons (lsnd_g (snd_g (ok_aload_n dL_law_784 rfl rfl))) ?_
  refine lcons (lsnd_g (snd_g (ok_iload dL_law_785 rfl))) ?_
  refine lcons (lsnd_g (snd_g (ok_iconst dL_law_787 rfl rfl))) ?_
  refine lcons (lsnd_g (snd_g (ok_iadd dL_law_788 rfl))) ?_
  refine lcons (ok_sld dL_law_789 rfl) ?_
  refine lcons (lsnd_g (snd_g (ok_invokevirtualN M_X5_vow (C := RX5) (T := TX5) (nf := 33) rfl w_1178 w_1179 w_1180 w_49 w_1181 ⟨rfl, by decide, by decide, by decide +kernel⟩ (by decide) (by decide) dL_law_790 rfl))) ?_
  refine lcons (lsnd_g (snd_g (ok_istore dL_law_793 (by decide) rfl))) ?_
  refine lcons (lsnd_g (snd_g (ok_aload_n dL_law_795 rfl rfl))) ?_
  refine lcons (lsnd_g (snd_g (ok_invokevirtual M_X5_thrown (C := RX5) (T := TX5) (nf := 33) rfl w_1093 w_1094 w_1095 w_49 w_1096 ⟨rfl, by decide, by decide, by decide +kernel⟩ (by decide) (by decide) dL_law_796 rfl))) ?_
  refine lcons (lsnd_g (snd_g (ok_iload dL_law_799 rfl))) ?_
  refine lcons (lsnd_g (snd_g (ok_icmp_eq dL_law_801 rfl rfl))) ?_
  refine lcons (lsnd_g (snd_g (ok_iconst dL_law_804 rfl rfl))) ?_
  refine lcons (ok_lret dL_law_805) ?_
  refine lcons (lsnd_g (snd_g (ok_iload dL_law_806 rfl))) ?_
  refine lcons (lsnd_g (snd_g (ok_if_ne dL_law_808 rfl rfl))) ?_
  refine lcons (lsnd_g (snd_g (ok_aload_n dL_law_811 rfl rfl))) ?_
  refine lcons (lsnd_g (snd_g (ok_iconst dL_law_812 rfl rfl))) ?_
  refine lcons (lsnd_g (snd_g (ok_laload dL_law_813 rfl))) ?_
  refine lcons (lsnd_g (snd_g (ok_iload dL_law_814 rfl))) ?_
  refine lcons (lsnd_g (snd_g (ok_i2l dL_law_816 rfl))) ?_
  refine lcons (lsnd_g (snd_g (ok_lcmp dL_law_817 rfl))) ?_
  refine lcons (lsnd_g (snd_g (ok_if_eq dL_law_818 rfl rfl))) ?_
  refine lcons (lsnd_g (snd_g (ok_iconst dL_law_821 rfl rfl))) ?_
  refine lcons (ok_lret dL_law_822) ?_
  refine lcons (lsnd_g (snd_g (ok_goto dL_law_823 rfl))) ?_
  exact fun _ h => nomatch h
theorem dL_law_826 : decode cL_law 826 = .ok (.aload_n 1, 1) := by decide +kernel
theorem dL_law_827 : decode cL_law 827 = .ok (.aload_n 0, 1) := by decide +kernel
theorem dL_law_828 : decode cL_law 828 = .ok (.iload 4, 2) := by decide +kernel
theorem dL_law_830 : decode cL_law 830 = .ok (.iconst 1, 1) := by decide +kernel
theorem dL_law_831 : decode cL_law 831 = .ok (.iadd, 1) := by decide +kernel
theorem dL_law_832 : decode cL_law 832 = .ok (.iaload, 1) := by decide +kernel
theorem dL_law_833 : decode cL_law 833 = .ok (.invokestatic 157, 3) := by decide +kernel
theorem dL_law_836 : decode cL_law 836 = .ok (.istore 5, 2) := by decide +kernel
theorem dL_law_838 : decode cL_law 838 = .ok (.aload_n 2, 1) := by decide +kernel
theorem dL_law_839 : decode cL_law 839 = .ok (.aload_n 0, 1) := by decide +kernel
theorem dL_law_840 : decode cL_law 840 = .ok (.iload 4, 2) := by decide +kernel
theorem dL_law_842 : decode cL_law 842 = .ok (.iconst 1, 1) := by decide +kernel
theorem dL_law_843 : decode cL_law 843 = .ok (.iadd, 1) := by decide +kernel
theorem dL_law_844 : decode cL_law 844 = .ok (.iaload, 1) := by decide +kernel
theorem dL_law_845 : decode cL_law 845 = .ok (.invokevirtual 159, 3) := by decide +kernel
theorem dL_law_848 : decode cL_law 848 = .ok (.aload_n 2, 1) := by decide +kernel
theorem dL_law_849 : decode cL_law 849 = .ok (.invokevirtual 122, 3) := by decide +kernel
theorem dL_law_852 : decode cL_law 852 = .ok (.iload 5, 2) := by decide +kernel
theorem dL_law_854 : decode cL_law 854 = .ok (.if_icmp .eq 5, 3) := by decide +kernel
theorem dL_law_857 : decode cL_law 857 = .ok (.iconst 0, 1) := by decide +kernel
theorem dL_law_858 : decode cL_law 858 = .ok (.ireturn, 1) := by decide +kernel
theorem dL_law_859 : decode cL_law 859 = .ok (.goto 1186, 3) := by decide +kernel
def tab_lawC10 (L : Nat) (xs : Nat → Int32) : List (Nat × Sem) := [(826, op_al 1 827), (827, op_al 0 828), (828, op_il 4 830), (830, op_ic 1 831), (831, op_bin (fun x y => x + y) 832), (832, op_sld L xs 833), (833, op_callL sp_L_heal 2 3 836), (836, op_is 5 838), (838, op_al 2 839), (839, op_al 0 840), (840, op_il 4 842), (842, op_ic 1 843), (843, op_bin (fun x y => x + y) 844), (844, op_sld L xs 845), (845, op_callVN 7 sp_X5_heal 2 0 848), (848, op_al 2 849), (849, op_callV 7 sp_X5_thrown 1 0 852), (852, op_il 5 854), (854, op_cmp (fun x y => x = y) 859 857), (857, op_ic 0 858), (858, op_lret), (859, op_go 2045)]
set_option maxRecDepth 20000 in
theorem tok_lawC10 {L : Nat} {xs : Nat → Int32} : ∀ q ∈ tab_lawC10 L xs, LSnd L xs RL cL_law 7 15 150256 ret q.1 q.2 := by
  unfold tab_lawC10
  refine lcons (lsnd_g (snd_g (ok_aload_n dL_law_826 rfl rfl))) ?_
  refine lcons (lsnd_g (snd_g (ok_aload_n dL_law_827 rfl rfl))) ?_
  refine lcons (lsnd_g (snd_g (ok_iload dL_law_828 rfl))) ?_
  refine lcons (lsnd_g (snd_g (ok_iconst dL_law_830 rfl rfl))) ?_
  refine lcons (lsnd_g (snd_g (ok_iadd dL_law_831 rfl))) ?_
  refine lcons (ok_sld dL_law_832 rfl) ?_
  refine lcons (ok_callL M_L_heal w_538 w_539 w_42 w_540 ⟨by decide, by decide, by decide +kernel⟩ (by decide) (by decide) dL_law_833 rfl) ?_
  refine lcons (lsnd_g (snd_g (ok_istore dL_law_836 (by decide) rfl))) ?_
  refine lcons (lsnd_g (snd_g (ok_aload_n dL_law_838 rfl rfl))) ?_
  refine lcons (lsnd_g (snd_g (ok_aload_n dL_law_839 rfl rfl))) ?_
  refine lcons (lsnd_g (snd_g (ok_iload dL_law_840 rfl))) ?_
  refine lcons (lsnd_g (snd_g (ok_iconst dL_law_842 rfl rfl))) ?_
  refine lcons (lsnd_g (snd_g (ok_iadd dL_law_843 rfl))) ?_
  refine lcons (ok_sld dL_law_844 rfl) ?_
  refine lcons (lsnd_g (snd_g (ok_invokevirtualN M_X5_heal (C := RX5) (T := TX5) (nf := 33) rfl w_1182 w_1183 w_1184 w_49 w_1185 ⟨rfl, by decide, by decide, by decide +kernel⟩ (by decide) (by decide) dL_law_845 rfl))) ?_
  refine lcons (lsnd_g (snd_g (ok_aload_n dL_law_848 rfl rfl))) ?_
  refine lcons (lsnd_g (snd_g (ok_invokevirtual M_X5_thrown (C := RX5) (T := TX5) (nf := 33) rfl w_1093 w_1094 w_1095 w_49 w_1096 ⟨rfl, by decide, by decide, by decide +kernel⟩ (by decide) (by decide) dL_law_849 rfl))) ?_
  refine lcons (lsnd_g (snd_g (ok_iload dL_law_852 rfl))) ?_
  refine lcons (lsnd_g (snd_g (ok_icmp_eq dL_law_854 rfl rfl))) ?_
  refine lcons (lsnd_g (snd_g (ok_iconst dL_law_857 rfl rfl))) ?_
  refine lcons (ok_lret dL_law_858) ?_
  refine lcons (lsnd_g (snd_g (ok_goto dL_law_859 rfl))) ?_
  exact fun _ h => nomatch h
theorem dL_law_862 : decode cL_law 862 = .ok (.aload_n 1, 1) := by decide +kernel
theorem dL_law_863 : decode cL_law 863 = .ok (.aload_n 0, 1) := by decide +kernel
theorem dL_law_864 : decode cL_law 864 = .ok (.iload 4, 2) := by decide +kernel
theorem dL_law_866 : decode cL_law 866 = .ok (.iconst 1, 1) := by decide +kernel
theorem dL_law_867 : decode cL_law 867 = .ok (.iadd, 1) := by decide +kernel
theorem dL_law_868 : decode cL_law 868 = .ok (.iaload, 1) := by decide +kernel
theorem dL_law_869 : decode cL_law 869 = .ok (.invokestatic 160, 3) := by decide +kernel
theorem dL_law_872 : decode cL_law 872 = .ok (.istore 5, 2) := by decide +kernel
theorem dL_law_874 : decode cL_law 874 = .ok (.aload_n 2, 1) := by decide +kernel
theorem dL_law_875 : decode cL_law 875 = .ok (.aload_n 0, 1) := by decide +kernel
theorem dL_law_876 : decode cL_law 876 = .ok (.iload 4, 2) := by decide +kernel
theorem dL_law_878 : decode cL_law 878 = .ok (.iconst 1, 1) := by decide +kernel
theorem dL_law_879 : decode cL_law 879 = .ok (.iadd, 1) := by decide +kernel
theorem dL_law_880 : decode cL_law 880 = .ok (.iaload, 1) := by decide +kernel
theorem dL_law_881 : decode cL_law 881 = .ok (.invokevirtual 162, 3) := by decide +kernel
theorem dL_law_884 : decode cL_law 884 = .ok (.aload_n 2, 1) := by decide +kernel
theorem dL_law_885 : decode cL_law 885 = .ok (.invokevirtual 122, 3) := by decide +kernel
theorem dL_law_888 : decode cL_law 888 = .ok (.iload 5, 2) := by decide +kernel
theorem dL_law_890 : decode cL_law 890 = .ok (.if_icmp .eq 5, 3) := by decide +kernel
theorem dL_law_893 : decode cL_law 893 = .ok (.iconst 0, 1) := by decide +kernel
theorem dL_law_894 : decode cL_law 894 = .ok (.ireturn, 1) := by decide +kernel
theorem dL_law_895 : decode cL_law 895 = .ok (.goto 1150, 3) := by decide +kernel
def tab_lawC11 (L : Nat) (xs : Nat → Int32) : List (Nat × Sem) := [(862, op_al 1 863), (863, op_al 0 864), (864, op_il 4 866), (866, op_ic 1 867), (867, op_bin (fun x y => x + y) 868), (868, op_sld L xs 869), (869, op_callL sp_L_grace 2 2 872), (872, op_is 5 874), (874, op_al 2 875), (875, op_al 0 876), (876, op_il 4 878), (878, op_ic 1 879), (879, op_bin (fun x y => x + y) 880), (880, op_sld L xs 881), (881, op_callVN 7 sp_X5_grace 2 0 884), (884, op_al 2 885), (885, op_callV 7 sp_X5_thrown 1 0 888), (888, op_il 5 890), (890, op_cmp (fun x y => x = y) 895 893), (893, op_ic 0 894), (894, op_lret), (895, op_go 2045)]
set_option maxRecDepth 20000 in
theorem tok_lawC11 {L : Nat} {xs : Nat → Int32} : ∀ q ∈ tab_lawC11 L xs, LSnd L xs RL cL_law 7 15 150256 ret q.1 q.2 := by
  unfold tab_lawC11
  refine lcons (lsnd_g (snd_g (ok_aload_n dL_law_862 rfl rfl))) ?_
  refine lcons (lsnd_g (snd_g (ok_aload_n dL_law_863 rfl rfl))) ?_
  refine lcons (lsnd_g (snd_g (ok_iload dL_law_864 rfl))) ?_
  refine lcons (lsnd_g (snd_g (ok_iconst dL_law_866 rfl rfl))) ?_
  refine lcons (lsnd_g (snd_g (ok_iadd dL_law_867 rfl))) ?_
  refine lcons (ok_sld dL_law_868 rfl) ?_
  refine lcons (ok_callL M_L_grace w_561 w_562 w_42 w_563 ⟨by decide, by decide, by decide +kernel⟩ (by decide) (by decide) dL_law_869 rfl) ?_
  refine lcons (lsnd_g (snd_g (ok_istore dL_law_872 (by decide) rfl))) ?_
  refine lcons (lsnd_g (snd_g (ok_aload_n dL_law_874 rfl rfl))) ?_
  refine lcons (lsnd_g (snd_g (ok_aload_n dL_law_875 rfl rfl))) ?_
  refine lcons (lsnd_g (snd_g (ok_iload dL_law_876 rfl))) ?_
  refine lcons (lsnd_g (snd_g (ok_iconst dL_law_878 rfl rfl))) ?_
  refine lcons (lsnd_g (snd_g (ok_iadd dL_law_879 rfl))) ?_
  refine lcons (ok_sld dL_law_880 rfl) ?_
  refine lcons (lsnd_g (snd_g (ok_invokevirtualN M_X5_grace (C := RX5) (T := TX5) (nf := 33) rfl w_1202 w_1203 w_1204 w_49 w_1205 ⟨rfl, by decide, by decide, by decide +kernel⟩ (by decide) (by decide) dL_law_881 rfl))) ?_
  refine lcons (lsnd_g (snd_g (ok_aload_n dL_law_884 rfl rfl))) ?_
  refine lcons (lsnd_g (snd_g (ok_invokevirtual M_X5_thrown (C := RX5) (T := TX5) (nf := 33) rfl w_1093 w_1094 w_1095 w_49 w_1096 ⟨rfl, by decide, by decide, by decide +kernel⟩ (by decide) (by decide) dL_law_885 rfl))) ?_
  refine lcons (lsnd_g (snd_g (ok_iload dL_law_888 rfl))) ?_
  refine lcons (lsnd_g (snd_g (ok_icmp_eq dL_law_890 rfl rfl))) ?_
  refine lcons (lsnd_g (snd_g (ok_iconst dL_law_893 rfl rfl))) ?_
  refine lcons (ok_lret dL_law_894) ?_
  refine lcons (lsnd_g (snd_g (ok_goto dL_law_895 rfl))) ?_
  exact fun _ h => nomatch h
theorem dL_law_898 : decode cL_law 898 = .ok (.aload_n 1, 1) := by decide +kernel
theorem dL_law_899 : decode cL_law 899 = .ok (.aload_n 0, 1) := by decide +kernel
theorem dL_law_900 : decode cL_law 900 = .ok (.iload 4, 2) := by decide +kernel
theorem dL_law_902 : decode cL_law 902 = .ok (.iconst 1, 1) := by decide +kernel
theorem dL_law_903 : decode cL_law 903 = .ok (.iadd, 1) := by decide +kernel
theorem dL_law_904 : decode cL_law 904 = .ok (.iaload, 1) := by decide +kernel
theorem dL_law_905 : decode cL_law 905 = .ok (.aload_n 3, 1) := by decide +kernel
theorem dL_law_906 : decode cL_law 906 = .ok (.invokestatic 163, 3) := by decide +kernel
theorem dL_law_909 : decode cL_law 909 = .ok (.istore 5, 2) := by decide +kernel
theorem dL_law_911 : decode cL_law 911 = .ok (.aload_n 2, 1) := by decide +kernel
theorem dL_law_912 : decode cL_law 912 = .ok (.aload_n 0, 1) := by decide +kernel
theorem dL_law_913 : decode cL_law 913 = .ok (.iload 4, 2) := by decide +kernel
theorem dL_law_915 : decode cL_law 915 = .ok (.iconst 1, 1) := by decide +kernel
theorem dL_law_916 : decode cL_law 916 = .ok (.iadd, 1) := by decide +kernel
theorem dL_law_917 : decode cL_law 917 = .ok (.iaload, 1) := by decide +kernel
theorem dL_law_918 : decode cL_law 918 = .ok (.invokevirtual 165, 3) := by decide +kernel
theorem dL_law_921 : decode cL_law 921 = .ok (.istore 6, 2) := by decide +kernel
theorem dL_law_923 : decode cL_law 923 = .ok (.aload_n 2, 1) := by decide +kernel
theorem dL_law_924 : decode cL_law 924 = .ok (.invokevirtual 122, 3) := by decide +kernel
theorem dL_law_927 : decode cL_law 927 = .ok (.iload 5, 2) := by decide +kernel
theorem dL_law_929 : decode cL_law 929 = .ok (.if_icmp .eq 5, 3) := by decide +kernel
theorem dL_law_932 : decode cL_law 932 = .ok (.iconst 0, 1) := by decide +kernel
theorem dL_law_933 : decode cL_law 933 = .ok (.ireturn, 1) := by decide +kernel
theorem dL_law_934 : decode cL_law 934 = .ok (.iload 5, 2) := by decide +kernel
theorem dL_law_936 : decode cL_law 936 = .ok (.ifCond .ne 15, 3) := by decide +kernel
theorem dL_law_939 : decode cL_law 939 = .ok (.aload_n 3, 1) := by decide +kernel
theorem dL_law_940 : decode cL_law 940 = .ok (.iconst 0, 1) := by decide +kernel
theorem dL_law_941 : decode cL_law 941 = .ok (.laload, 1) := by decide +kernel
theorem dL_law_942 : decode cL_law 942 = .ok (.iload 6, 2) := by decide +kernel
theorem dL_law_944 : decode cL_law 944 = .ok (.i2l, 1) := by decide +kernel
theorem dL_law_945 : decode cL_law 945 = .ok (.lcmp, 1) := by decide +kernel
theorem dL_law_946 : decode cL_law 946 = .ok (.ifCond .eq 5, 3) := by decide +kernel
theorem dL_law_949 : decode cL_law 949 = .ok (.iconst 0, 1) := by decide +kernel
theorem dL_law_950 : decode cL_law 950 = .ok (.ireturn, 1) := by decide +kernel
theorem dL_law_951 : decode cL_law 951 = .ok (.goto 1094, 3) := by decide +kernel
def tab_lawC12 (L : Nat) (xs : Nat → Int32) : List (Nat × Sem) := [(898, op_al 1 899), (899, op_al 0 900), (900, op_il 4 902), (902, op_ic 1 903), (903, op_bin (fun x y => x + y) 904), (904, op_sld L xs 905), (905, op_al 3 906), (906, op_callL sp_L_documents 3 4 909), (909, op_is 5 911), (911, op_al 2 912), (912, op_al 0 913), (913, op_il 4 915), (915, op_ic 1 916), (916, op_bin (fun x y => x + y) 917), (917, op_sld L xs 918), (918, op_callVN 7 sp_X5_documents 2 0 921), (921, op_is 6 923), (923, op_al 2 924), (924, op_callV 7 sp_X5_thrown 1 0 927), (927, op_il 5 929), (929, op_cmp (fun x y => x = y) 934 932), (932, op_ic 0 933), (933, op_lret), (934, op_il 5 936), (936, op_if (fun x => ¬ x = 0) 951 939), (939, op_al 3 940), (940, op_ic 0 941), (941, op_lald 942), (942, op_il 6 944), (944, op_i2l 945), (945, op_lcmp 946), (946, op_if (fun x => x = 0) 951 949), (949, op_ic 0 950), (950, op_lret), (951, op_go 2045)]
set_option maxRecDepth 20000 in
theorem tok_lawC12 {L : Nat} {xs : Nat → Int32} : ∀ q ∈ tab_lawC12 L xs, LSnd L xs RL cL_law 7 15 150256 ret q.1 q.2 := by
  unfold tab_lawC12
  refine lcons (lsnd_g (snd_g (ok_aload_n dL_law_898 rfl rfl))) ?_
  refine lcons (lsnd_g (snd_g (ok_aload_n dL_law_899 rfl rfl))) ?_
  refine lcons (lsnd_g (snd_g (ok_iload dL_law_900 rfl))) ?_
  refine lcons (lsnd_g (snd_g (ok_iconst dL_law_902 rfl rfl))) ?_
  refine lcons (lsnd_g (snd_g (ok_iadd dL_law_903 rfl))) ?_
  refine lcons (ok_sld dL_law_904 rfl) ?_
  refine lcons (lsnd_g (snd_g (ok_aload_n dL_law_905 rfl rfl))) ?_
  refine lcons (ok_callL M_L_documents w_577 w_578 w_42 w_579 ⟨by decide, by decide, by decide +kernel⟩ (by decide) (by decide) dL_law_906 rfl) ?_
  refine lcons (lsnd_g (snd_g (ok_istore dL_law_909 (by decide) rfl))) ?_
  refine lcons (lsnd_g (snd_g (ok_aload_n dL_law_911 rfl rfl))) ?_
  refine lcons (lsnd_g (snd_g (ok_aload_n dL_law_912 rfl rfl))) ?_
  refine lcons (lsnd_g (snd_g (ok_iload dL_law_913 rfl))) ?_
  refine lcons (lsnd_g (snd_g (ok_iconst dL_law_915 rfl rfl))) ?_
  refine lcons (lsnd_g (snd_g (ok_iadd dL_law_916 rfl))) ?_
  refine lcons (ok_sld dL_law_917 rfl) ?_
  refine lcons (lsnd_g (snd_g (ok_invokevirtualN M_X5_documents (C := RX5) (T := TX5) (nf := 33) rfl w_1213 w_1214 w_1215 w_49 w_1216 ⟨rfl, by decide, by decide, by decide +kernel⟩ (by decide) (by decide) dL_law_918 rfl))) ?_
  refine lcons (lsnd_g (snd_g (ok_istore dL_law_921 (by decide) rfl))) ?_
  refine lcons (lsnd_g (snd_g (ok_aload_n dL_law_923 rfl rfl))) ?_
  refine lcons (lsnd_g (snd_g (ok_invokevirtual M_X5_thrown (C := RX5) (T := TX5) (nf := 33) rfl w_1093 w_1094 w_1095 w_49 w_1096 ⟨rfl, by decide, by decide, by decide +kernel⟩ (by decide) (by decide) dL_law_924 rfl))) ?_
  refine lcons (lsnd_g (snd_g (ok_iload dL_law_927 rfl))) ?_
  refine lcons (lsnd_g (snd_g (ok_icmp_eq dL_law_929 rfl rfl))) ?_
  refine lcons (lsnd_g (snd_g (ok_iconst dL_law_932 rfl rfl))) ?_
  refine lcons (ok_lret dL_law_933) ?_
  refine lcons (lsnd_g (snd_g (ok_iload dL_law_934 rfl))) ?_
  refine lcons (lsnd_g (snd_g (ok_if_ne dL_law_936 rfl rfl))) ?_
  refine lcons (lsnd_g (snd_g (ok_aload_n dL_law_939 rfl rfl))) ?_
  refine lcons (lsnd_g (snd_g (ok_iconst dL_law_940 rfl rfl))) ?_
  refine lcons (lsnd_g (snd_g (ok_laload dL_law_941 rfl))) ?_
  refine lcons (lsnd_g (snd_g (ok_iload dL_law_942 rfl))) ?_
  refine lcons (lsnd_g (snd_g (ok_i2l dL_law_944 rfl))) ?_
  refine lcons (lsnd_g (snd_g (ok_lcmp dL_law_945 rfl))) ?_
  refine lcons (lsnd_g (snd_g (ok_if_eq dL_law_946 rfl rfl))) ?_
  refine lcons (lsnd_g (snd_g (ok_iconst dL_law_949 rfl rfl))) ?_
  refine lcons (ok_lret dL_law_950) ?_
  refine lcons (lsnd_g (snd_g (ok_goto dL_law_951 rfl))) ?_
  exact fun _ h => nomatch h
theorem dL_law_954 : decode cL_law 954 = .ok (.aload_n 1, 1) := by decide +kernel
theorem dL_law_955 : decode cL_law 955 = .ok (.aload_n 0, 1) := by decide +kernel
theorem dL_law_956 : decode cL_law 956 = .ok (.iload 4, 2) := by decide +kernel
theorem dL_law_958 : decode cL_law 958 = .ok (.iconst 1, 1) := by decide +kernel
theorem dL_law_959 : decode cL_law 959 = .ok (.iadd, 1) := by decide +kernel
theorem dL_law_960 : decode cL_law 960 = .ok (.iaload, 1) := by decide +kernel
theorem dL_law_961 : decode cL_law 961 = .ok (.aload_n 0, 1) := by decide +kernel
theorem dL_law_962 : decode cL_law 962 = .ok (.iload 4, 2) := by decide +kernel
theorem dL_law_964 : decode cL_law 964 = .ok (.iconst 2, 1) := by decide +kernel
theorem dL_law_965 : decode cL_law 965 = .ok (.iadd, 1) := by decide +kernel
theorem dL_law_966 : decode cL_law 966 = .ok (.iaload, 1) := by decide +kernel
theorem dL_law_967 : decode cL_law 967 = .ok (.aload_n 0, 1) := by decide +kernel
theorem dL_law_968 : decode cL_law 968 = .ok (.iload 4, 2) := by decide +kernel
theorem dL_law_970 : decode cL_law 970 = .ok (.iconst 3, 1) := by decide +kernel
theorem dL_law_971 : decode cL_law 971 = .ok (.iadd, 1) := by decide +kernel
theorem dL_law_972 : decode cL_law 972 = .ok (.iaload, 1) := by decide +kernel
theorem dL_law_973 : decode cL_law 973 = .ok (.aload_n 0, 1) := by decide +kernel
theorem dL_law_974 : decode cL_law 974 = .ok (.iload 4, 2) := by decide +kernel
theorem dL_law_976 : decode cL_law 976 = .ok (.iconst 4, 1) := by decide +kernel
theorem dL_law_977 : decode cL_law 977 = .ok (.iadd, 1) := by decide +kernel
theorem dL_law_978 : decode cL_law 978 = .ok (.iaload, 1) := by decide +kernel
theorem dL_law_979 : decode cL_law 979 = .ok (.ifCond .eq 7, 3) := by decide +kernel
theorem dL_law_982 : decode cL_law 982 = .ok (.iconst 1, 1) := by decide +kernel
theorem dL_law_983 : decode cL_law 983 = .ok (.goto 4, 3) := by decide +kernel
theorem dL_law_986 : decode cL_law 986 = .ok (.iconst 0, 1) := by decide +kernel
theorem dL_law_987 : decode cL_law 987 = .ok (.aload_n 3, 1) := by decide +kernel
theorem dL_law_988 : decode cL_law 988 = .ok (.invokestatic 166, 3) := by decide +kernel
theorem dL_law_991 : decode cL_law 991 = .ok (.istore 5, 2) := by decide +kernel
theorem dL_law_993 : decode cL_law 993 = .ok (.aload_n 2, 1) := by decide +kernel
theorem dL_law_994 : decode cL_law 994 = .ok (.aload_n 0, 1) := by decide +kernel
theorem dL_law_995 : decode cL_law 995 = .ok (.iload 4, 2) := by decide +kernel
theorem dL_law_997 : decode cL_law 997 = .ok (.iconst 1, 1) := by decide +kernel
theorem dL_law_998 : decode cL_law 998 = .ok (.iadd, 1) := by decide +kernel
theorem dL_law_999 : decode cL_law 999 = .ok (.iaload, 1) := by decide +kernel
theorem dL_law_1000 : decode cL_law 1000 = .ok (.aload_n 0, 1) := by decide +kernel
theorem dL_law_1001 : decode cL_law 1001 = .ok (.iload 4, 2) := by decide +kernel
theorem dL_law_1003 : decode cL_law 1003 = .ok (.iconst 2, 1) := by decide +kernel
theorem dL_law_1004 : decode cL_law 1004 = .ok (.iadd, 1) := by decide +kernel
theorem dL_law_1005 : decode cL_law 1005 = .ok (.iaload, 1) := by decide +kernel
theorem dL_law_1006 : decode cL_law 1006 = .ok (.aload_n 0, 1) := by decide +kernel
theorem dL_law_1007 : decode cL_law 1007 = .ok (.iload 4, 2) := by decide +kernel
theorem dL_law_1009 : decode cL_law 1009 = .ok (.iconst 3, 1) := by decide +kernel
theorem dL_law_1010 : decode cL_law 1010 = .ok (.iadd, 1) := by decide +kernel
theorem dL_law_1011 : decode cL_law 1011 = .ok (.iaload, 1) := by decide +kernel
theorem dL_law_1012 : decode cL_law 1012 = .ok (.aload_n 0, 1) := by decide +kernel
theorem dL_law_1013 : decode cL_law 1013 = .ok (.iload 4, 2) := by decide +kernel
theorem dL_law_1015 : decode cL_law 1015 = .ok (.iconst 4, 1) := by decide +kernel
theorem dL_law_1016 : decode cL_law 1016 = .ok (.iadd, 1) := by decide +kernel
theorem dL_law_1017 : decode cL_law 1017 = .ok (.iaload, 1) := by decide +kernel
theorem dL_law_1018 : decode cL_law 1018 = .ok (.ifCond .eq 7, 3) := by decide +kernel
theorem dL_law_1021 : decode cL_law 1021 = .ok (.iconst 1, 1) := by decide +kernel
theorem dL_law_1022 : decode cL_law 1022 = .ok (.goto 4, 3) := by decide +kernel
theorem dL_law_1025 : decode cL_law 1025 = .ok (.iconst 0, 1) := by decide +kernel
theorem dL_law_1026 : decode cL_law 1026 = .ok (.invokevirtual 169, 3) := by decide +kernel
theorem dL_law_1029 : decode cL_law 1029 = .ok (.istore 6, 2) := by decide +kernel
theorem dL_law_1031 : decode cL_law 1031 = .ok (.aload_n 2, 1) := by decide +kernel
theorem dL_law_1032 : decode cL_law 1032 = .ok (.invokevirtual 122, 3) := by decide +kernel
theorem dL_law_1035 : decode cL_law 1035 = .ok (.iload 5, 2) := by decide +kernel
theorem dL_law_1037 : decode cL_law 1037 = .ok (.if_icmp .eq 5, 3) := by decide +kernel
theorem dL_law_1040 : decode cL_law 1040 = .ok (.iconst 0, 1) := by decide +kernel
theorem dL_law_1041 : decode cL_law 1041 = .ok (.ireturn, 1) := by decide +kernel
theorem dL_law_1042 : decode cL_law 1042 = .ok (.iload 5, 2) := by decide +kernel
theorem dL_law_1044 : decode cL_law 1044 = .ok (.ifCond .ne 15, 3) := by decide +kernel
theorem dL_law_1047 : decode cL_law 1047 = .ok (.aload_n 3, 1) := by decide +kernel
theorem dL_law_1048 : decode cL_law 1048 = .ok (.iconst 0, 1) := by decide +kernel
theorem dL_law_1049 : decode cL_law 1049 = .ok (.laload, 1) := by decide +kernel
theorem dL_law_1050 : decode cL_law 1050 = .ok (.iload 6, 2) := by decide +kernel
theorem dL_law_1052 : decode cL_law 1052 = .ok (.i2l, 1) := by decide +kernel
theorem dL_law_1053 : decode cL_law 1053 = .ok (.lcmp, 1) := by decide +kernel
theorem dL_law_1054 : decode cL_law 1054 = .ok (.ifCond .eq 5, 3) := by decide +kernel
theorem dL_law_1057 : decode cL_law 1057 = .ok (.iconst 0, 1) := by decide +kernel
theorem dL_law_1058 : decode cL_law 1058 = .ok (.ireturn, 1) := by decide +kernel
theorem dL_law_1059 : decode cL_law 1059 = .ok (.goto 986, 3) := by decide +kernel
def tab_lawC13 (L : Nat) (xs : Nat → Int32) : List (Nat × Sem) := [(954, op_al 1 955), (955, op_al 0 956), (956, op_il 4 958), (958, op_ic 1 959), (959, op_bin (fun x y => x + y) 960), (960, op_sld L xs 961), (961, op_al 0 962), (962, op_il 4 964), (964, op_ic 2 965), (965, op_bin (fun x y => x + y) 966), (966, op_sld L xs 967), (967, op_al 0 968), (968, op_il 4 970), (970, op_ic 3 971), (971, op_bin (fun x y => x + y) 972), (972, op_sld L xs 973), (973, op_al 0 974), (974, op_il 4 976), (976, op_ic 4 977), (977, op_bin (fun x y => x + y) 978), (978, op_sld L xs 979), (979, op_if (fun x => x = 0) 986 982), (982, op_ic 1 983), (983, op_go 987), (986, op_ic 0 987), (987, op_al 3 988), (988, op_callL sp_L_cause 6 16 991), (991, op_is 5 993), (993, op_al 2 994), (994, op_al 0 995), (995, op_il 4 997), (997, op_ic 1 998), (998, op_bin (fun x y => x + y) 999), (999, op_sld L xs 1000), (1000, op_al 0 1001), (1001, op_il 4 1003), (1003, op_ic 2 1004), (1004, op_bin (fun x y => x + y) 1005), (1005, op_sld L xs 1006), (1006, op_al 0 1007), (1007, op_il 4 1009), (1009, op_ic 3 1010), (1010, op_bin (fun x y => x + y) 1011), (1011, op_sld L xs 1012), (1012, op_al 0 1013), (1013, op_il 4 1015), (1015, op_ic 4 1016), (1016, op_bin (fun x y => x + y) 1017), (1017, op_sld L xs 1018), (1018, op_if (fun x => x = 0) 1025 1021), (1021, op_ic 1 1022), (1022, op_go 1026), (1025, op_ic 0 1026), (1026, op_callVN 7 sp_X5_cause 5 0 1029), (1029, op_is 6 1031), (1031, op_al 2 1032), (1032, op_callV 7 sp_X5_thrown 1 0 1035), (1035, op_il 5 1037), (1037, op_cmp (fun x y => x = y) 1042 1040), (1040, op_ic 0 1041), (1041, op_lret), (1042, op_il 5 1044), (1044, op_if (fun x => ¬ x = 0) 1059 1047), (1047, op_al 3 1048), (1048, op_ic 0 1049), (1049, op_lald 1050), (1050, op_il 6 1052), (1052, op_i2l 1053), (1053, op_lcmp 1054), (1054, op_if (fun x => x = 0) 1059 1057), (1057, op_ic 0 1058), (1058, op_lret), (1059, op_go 2045)]
set_option maxRecDepth 20000 in
theorem tok_lawC13 {L : Nat} {xs : Nat → Int32} : ∀ q ∈ tab_lawC13 L xs, LSnd L xs RL cL_law 7 15 150256 ret q.1 q.2 := by
  unfold tab_lawC13
  refine lcons (lsnd_g (snd_g (ok_aload_n dL_law_954 rfl rfl))) ?_
  refine lcons (lsnd_g (snd_g (ok_aload_n dL_law_955 rfl rfl))) ?_
  refine lcons (lsnd_g (snd_g (ok_iload dL_law_956 rfl))) ?_
  refine lcons (lsnd_g (snd_g (ok_iconst dL_law_958 rfl rfl))) ?_
  refine lcons (lsnd_g (snd_g (ok_iadd dL_law_959 rfl))) ?_
  refine lcons (ok_sld dL_law_960 rfl) ?_
  refine lcons (lsnd_g (snd_g (ok_aload_n dL_law_961 rfl rfl))) ?_
  refine lcons (lsnd_g (snd_g (ok_iload dL_law_962 rfl))) ?_
  refine lcons (lsnd_g (snd_g (ok_iconst dL_law_964 rfl rfl))) ?_
  refine lcons (lsnd_g (snd_g (ok_iadd dL_law_965 rfl))) ?_
  refine lcons (ok_sld dL_law_966 rfl) ?_
  refine lcons (lsnd_g (snd_g (ok_aload_n dL_law_967 rfl rfl))) ?_
  refine lcons (lsnd_g (snd_g (ok_iload dL_law_968 rfl))) ?_
  refine lcons (lsnd_g (snd_g (ok_iconst dL_law_970 rfl rfl))) ?_
  refine lcons (lsnd_g (snd_g (ok_iadd dL_law_971 rfl))) ?_
  refine lcons (ok_sld dL_law_972 rfl) ?_
  refine lcons (lsnd_g (snd_g (ok_aload_n dL_law_973 rfl rfl))) ?_
  refine lcons (lsnd_g (snd_g (ok_iload dL_law_974 rfl))) ?_
  refine lcons (lsnd_g (snd_g (ok_iconst dL_law_976 rfl rfl))) ?_
  refine lcons (lsnd_g (snd_g (ok_iadd dL_law_977 rfl))) ?_
  refine lcons (ok_sld dL_law_978 rfl) ?_
  refine lcons (lsnd_g (snd_g (ok_if_eq dL_law_979 rfl rfl))) ?_
  refine lcons (lsnd_g (snd_g (ok_iconst dL_law_982 rfl rfl))) ?_
  refine lcons (lsnd_g (snd_g (ok_goto dL_law_983 rfl))) ?_
  refine lcons (lsnd_g (snd_g (ok_iconst dL_law_986 rfl rfl))) ?_
  refine lcons (lsnd_g (snd_g (ok_aload_n dL_law_987 rfl rfl))) ?_
  refine lcons (ok_callL M_L_cause w_588 w_589 w_42 w_590 ⟨by decide, by decide, by decide +kernel⟩ (by decide) (by decide) dL_law_988 rfl) ?_
  refine lcons (lsnd_g (snd_g (ok_istore dL_law_991 (by decide) rfl))) ?_
  refine lcons (lsnd_g (snd_g (ok_aload_n dL_law_993 rfl rfl))) ?_
  refine lcons (lsnd_g (snd_g (ok_aload_n dL_law_994 rfl rfl))) ?_
  refine lcons (lsnd_g (snd_g (ok_iload dL_law_995 rfl))) ?_
  refine lcons (lsnd_g (snd_g (ok_iconst dL_law_997 rfl rfl))) ?_
  refine lcons (lsnd_g (snd_g (ok_iadd dL_law_998 rfl))) ?_
  refine lcons (ok_sld dL_law_999 rfl) ?_
  refine lcons (lsnd_g (snd_g (ok_aload_n dL_law_1000 rfl rfl))) ?_
  refine lcons (lsnd_g (snd_g (ok_iload dL_law_1001 rfl))) ?_
  refine lcons (lsnd_g (snd_g (ok_iconst dL_law_1003 rfl rfl))) ?_
  refine lcons (lsnd_g (snd_g (ok_iadd dL_law_1004 rfl))) ?_
  refine lcons (ok_sld dL_law_1005 rfl) ?_
  refine lcons (lsnd_g (snd_g (ok_aload_n dL_law_1006 rfl rfl))) ?_
  refine lcons (lsnd_g (snd_g (ok_iload dL_law_1007 rfl))) ?_
  refine lcons (lsnd_g (snd_g (ok_iconst dL_law_1009 rfl rfl))) ?_
  refine lcons (lsnd_g (snd_g (ok_iadd dL_law_1010 rfl))) ?_
  refine lcons (ok_sld dL_law_1011 rfl) ?_
  refine lcons (lsnd_g (snd_g (ok_aload_n dL_law_1012 rfl rfl))) ?_
  refine lcons (lsnd_g (snd_g (ok_iload dL_law_1013 rfl))) ?_
  refine lcons (lsnd_g (snd_g (ok_iconst dL_law_1015 rfl rfl))) ?_
  refine lcons (lsnd_g (snd_g (ok_iadd dL_law_1016 rfl))) ?_
  refine lcons (ok_sld dL_law_1017 rfl) ?_
  refine lcons (lsnd_g (snd_g (ok_if_eq dL_law_1018 rfl rfl))) ?_
  refine lcons (lsnd_g (snd_g (ok_iconst dL_law_1021 rfl rfl))) ?_
  refine lcons (lsnd_g (snd_g (ok_goto dL_law_1022 rfl))) ?_
  refine lcons (lsnd_g (snd_g (ok_iconst dL_law_1025 rfl rfl))) ?_
  refine lcons (lsnd_g (snd_g (ok_invokevirtualN M_X5_cause (C := RX5) (T := TX5) (nf := 33) rfl w_1221 w_1222 w_1223 w_49 w_1224 ⟨rfl, by decide, by decide, by decide +kernel⟩ (by decide) (by decide) dL_law_1026 rfl))) ?_
  refine lcons (lsnd_g (snd_g (ok_istore dL_law_1029 (by decide) rfl))) ?_
  refine lcons (lsnd_g (snd_g (ok_aload_n dL_law_1031 rfl rfl))) ?_
  refine lcons (lsnd_g (snd_g (ok_invokevirtual M_X5_thrown (C := RX5) (T := TX5) (nf := 33) rfl w_1093 w_1094 w_1095 w_49 w_1096 ⟨rfl, by decide, by decide, by decide +kernel⟩ (by decide) (by decide) dL_law_1032 rfl))) ?_
  refine lcons (lsnd_g (snd_g (ok_iload dL_law_1035 rfl))) ?_
  refine lcons (lsnd_g (snd_g (ok_icmp_eq dL_law_1037 rfl rfl))) ?_
  refine lcons (lsnd_g (snd_g (ok_iconst dL_law_1040 rfl rfl))) ?_
  refine lcons (ok_lret dL_law_1041) ?_
  refine lcons (lsnd_g (snd_g (ok_iload dL_law_1042 rfl))) ?_
  refine lcons (lsnd_g (snd_g (ok_if_ne dL_law_1044 rfl rfl))) ?_
  refine lcons (lsnd_g (snd_g (ok_aload_n dL_law_1047 rfl rfl))) ?_
  refine lcons (lsnd_g (snd_g (ok_iconst dL_law_1048 rfl rfl))) ?_
  refine lcons (lsnd_g (snd_g (ok_laload dL_law_1049 rfl))) ?_
  refine lcons (lsnd_g (snd_g (ok_iload dL_law_1050 rfl))) ?_
  refine lcons (lsnd_g (snd_g (ok_i2l dL_law_1052 rfl))) ?_
  refine lcons (lsnd_g (snd_g (ok_lcmp dL_law_1053 rfl))) ?_
  refine lcons (lsnd_g (snd_g (ok_if_eq dL_law_1054 rfl rfl))) ?_
  refine lcons (lsnd_g (snd_g (ok_iconst dL_law_1057 rfl rfl))) ?_
  refine lcons (ok_lret dL_law_1058) ?_
  refine lcons (lsnd_g (snd_g (ok_goto dL_law_1059 rfl))) ?_
  exact fun _ h => nomatch h
theorem dL_law_1062 : decode cL_law 1062 = .ok (.aload_n 1, 1) := by decide +kernel
theorem dL_law_1063 : decode cL_law 1063 = .ok (.aload_n 0, 1) := by decide +kernel
theorem dL_law_1064 : decode cL_law 1064 = .ok (.iload 4, 2) := by decide +kernel
theorem dL_law_1066 : decode cL_law 1066 = .ok (.iconst 1, 1) := by decide +kernel
theorem dL_law_1067 : decode cL_law 1067 = .ok (.iadd, 1) := by decide +kernel
theorem dL_law_1068 : decode cL_law 1068 = .ok (.iaload, 1) := by decide +kernel
theorem dL_law_1069 : decode cL_law 1069 = .ok (.aload_n 0, 1) := by decide +kernel
theorem dL_law_1070 : decode cL_law 1070 = .ok (.iload 4, 2) := by decide +kernel
theorem dL_law_1072 : decode cL_law 1072 = .ok (.iconst 2, 1) := by decide +kernel
theorem dL_law_1073 : decode cL_law 1073 = .ok (.iadd, 1) := by decide +kernel
theorem dL_law_1074 : decode cL_law 1074 = .ok (.iaload, 1) := by decide +kernel
theorem dL_law_1075 : decode cL_law 1075 = .ok (.aload_n 3, 1) := by decide +kernel
theorem dL_law_1076 : decode cL_law 1076 = .ok (.invokestatic 170, 3) := by decide +kernel
theorem dL_law_1079 : decode cL_law 1079 = .ok (.istore 5, 2) := by decide +kernel
theorem dL_law_1081 : decode cL_law 1081 = .ok (.aload_n 2, 1) := by decide +kernel
theorem dL_law_1082 : decode cL_law 1082 = .ok (.aload_n 0, 1) := by decide +kernel
theorem dL_law_1083 : decode cL_law 1083 = .ok (.iload 4, 2) := by decide +kernel
theorem dL_law_1085 : decode cL_law 1085 = .ok (.iconst 1, 1) := by decide +kernel
theorem dL_law_1086 : decode cL_law 1086 = .ok (.iadd, 1) := by decide +kernel
theorem dL_law_1087 : decode cL_law 1087 = .ok (.iaload, 1) := by decide +kernel
theorem dL_law_1088 : decode cL_law 1088 = .ok (.aload_n 0, 1) := by decide +kernel
theorem dL_law_1089 : decode cL_law 1089 = .ok (.iload 4, 2) := by decide +kernel
theorem dL_law_1091 : decode cL_law 1091 = .ok (.iconst 2, 1) := by decide +kernel
theorem dL_law_1092 : decode cL_law 1092 = .ok (.iadd, 1) := by decide +kernel
theorem dL_law_1093 : decode cL_law 1093 = .ok (.iaload, 1) := by decide +kernel
theorem dL_law_1094 : decode cL_law 1094 = .ok (.invokevirtual 172, 3) := by decide +kernel
theorem dL_law_1097 : decode cL_law 1097 = .ok (.istore 6, 2) := by decide +kernel
theorem dL_law_1099 : decode cL_law 1099 = .ok (.aload_n 2, 1) := by decide +kernel
theorem dL_law_1100 : decode cL_law 1100 = .ok (.invokevirtual 122, 3) := by decide +kernel
theorem dL_law_1103 : decode cL_law 1103 = .ok (.iload 5, 2) := by decide +kernel
theorem dL_law_1105 : decode cL_law 1105 = .ok (.if_icmp .eq 5, 3) := by decide +kernel
theorem dL_law_1108 : decode cL_law 1108 = .ok (.iconst 0, 1) := by decide +kernel
theorem dL_law_1109 : decode cL_law 1109 = .ok (.ireturn, 1) := by decide +kernel
theorem dL_law_1110 : decode cL_law 1110 = .ok (.iload 5, 2) := by decide +kernel
theorem dL_law_1112 : decode cL_law 1112 = .ok (.ifCond .ne 15, 3) := by decide +kernel
theorem dL_law_1115 : decode cL_law 1115 = .ok (.aload_n 3, 1) := by decide +kernel
theorem dL_law_1116 : decode cL_law 1116 = .ok (.iconst 0, 1) := by decide +kernel
theorem dL_law_1117 : decode cL_law 1117 = .ok (.laload, 1) := by decide +kernel
theorem dL_law_1118 : decode cL_law 1118 = .ok (.iload 6, 2) := by decide +kernel
theorem dL_law_1120 : decode cL_law 1120 = .ok (.i2l, 1) := by decide +kernel
theorem dL_law_1121 : decode cL_law 1121 = .ok (.lcmp, 1) := by decide +kernel
theorem dL_law_1122 : decode cL_law 1122 = .ok (.ifCond .eq 5, 3) := by decide +kernel
theorem dL_law_1125 : decode cL_law 1125 = .ok (.iconst 0, 1) := by decide +kernel
theorem dL_law_1126 : decode cL_law 1126 = .ok (.ireturn, 1) := by decide +kernel
theorem dL_law_1127 : decode cL_law 1127 = .ok (.goto 918, 3) := by decide +kernel
def tab_lawC14 (L : Nat) (xs : Nat → Int32) : List (Nat × Sem) := [(1062, op_al 1 1063), (1063, op_al 0 1064), (1064, op_il 4 1066), (1066, op_ic 1 1067), (1067, op_bin (fun x y => x + y) 1068), (1068, op_sld L xs 1069), (1069, op_al 0 1070), (1070, op_il 4 1072), (1072, op_ic 2 1073), (1073, op_bin (fun x y => x + y) 1074), (1074, op_sld L xs 1075), (1075, op_al 3 1076), (1076, op_callL sp_L_doubt 4 3 1079), (1079, op_is 5 1081), (1081, op_al 2 1082), (1082, op_al 0 1083), (1083, op_il 4 1085), (1085, op_ic 1 1086), (1086, op_bin (fun x y => x + y) 1087), (1087, op_sld L xs 1088), (1088, op_al 0 1089), (1089, op_il 4 1091), (1091, op_ic 2 1092), (1092, op_bin (fun x y => x + y) 1093), (1093, op_sld L xs 1094), (1094, op_callVN 7 sp_X5_doubt 3 0 1097), (1097, op_is 6 1099), (1099, op_al 2 1100), (1100, op_callV 7 sp_X5_thrown 1 0 1103), (1103, op_il 5 1105), (1105, op_cmp (fun x y => x = y) 1110 1108), (1108, op_ic 0 1109), (1109, op_lret), (1110, op_il 5 1112), (1112, op_if (fun x => ¬ x = 0) 1127 1115), (1115, op_al 3 1116), (1116, op_ic 0 1117), (1117, op_lald 1118), (1118, op_il 6 1120), (1120, op_i2l 1121), (1121, op_lcmp 1122), (1122, op_if (fun x => x = 0) 1127 1125), (1125, op_ic 0 1126), (1126, op_lret), (1127, op_go 2045)]
set_option maxRecDepth 20000 in
theorem tok_lawC14 {L : Nat} {xs : Nat → Int32} : ∀ q ∈ tab_lawC14 L xs, LSnd L xs RL cL_law 7 15 150256 ret q.1 q.2 := by
  unfold tab_lawC14
  refine lcons (lsnd_g (snd_g (ok_aload_n dL_law_1062 rfl rfl))) ?_
  refine lcons (lsnd_g (snd_g (ok_aload_n dL_law_1063 rfl rfl))) ?_
  refine lcons (lsnd_g (snd_g (ok_iload dL_law_1064 rfl))) ?_
  refine lcons (lsnd_g (snd_g (ok_iconst dL_law_1066 rfl rfl))) ?_
  refine lcons (lsnd_g (snd_g (ok_iadd dL_law_1067 rfl))) ?_
  refine lcons (ok_sld dL_law_1068 rfl) ?_
  refine lcons (lsnd_g (snd_g (ok_aload_n dL_law_1069 rfl rfl))) ?_
  refine lcons (lsnd_g (snd_g (ok_iload dL_law_1070 rfl))) ?_
  refine lcons (lsnd_g (snd_g (ok_iconst dL_law_1072 rfl rfl))) ?_
  refine lcons (lsnd_g (snd_g (ok_iadd dL_law_1073 rfl))) ?_
  refine lcons (ok_sld dL_law_1074 rfl) ?_
  refine lcons (lsnd_g (snd_g (ok_aload_n dL_law_1075 rfl rfl))) ?_
  refine lcons (ok_callL M_L_doubt w_641 w_642 w_42 w_643 ⟨by decide, by decide, by decide +kernel⟩ (by decide) (by decide) dL_law_1076 rfl) ?_
  refine lcons (lsnd_g (snd_g (ok_istore dL_law_1079 (by decide) rfl))) ?_
  refine lcons (lsnd_g (snd_g (ok_aload_n dL_law_1081 rfl rfl))) ?_
  refine lcons (lsnd_g (snd_g (ok_aload_n dL_law_1082 rfl rfl))) ?_
  refine lcons (lsnd_g (snd_g (ok_iload dL_law_1083 rfl))) ?_
  refine lcons (lsnd_g (snd_g (ok_iconst dL_law_1085 rfl rfl))) ?_
  refine lcons (lsnd_g (snd_g (ok_iadd dL_law_1086 rfl))) ?_
  refine lcons (ok_sld dL_law_1087 rfl) ?_
  refine lcons (lsnd_g (snd_g (ok_aload_n dL_law_1088 rfl rfl))) ?_
  refine lcons (lsnd_g (snd_g (ok_iload dL_law_1089 rfl))) ?_
  refine lcons (lsnd_g (snd_g (ok_iconst dL_law_1091 rfl rfl))) ?_
  refine lcons (lsnd_g (snd_g (ok_iadd dL_law_1092 rfl))) ?_
  refine lcons (ok_sld dL_law_1093 rfl) ?_
  refine lcons (lsnd_g (snd_g (ok_invokevirtualN M_X5_doubt (C := RX5) (T := TX5) (nf := 33) rfl w_1232 w_1233 w_1234 w_49 w_1235 ⟨rfl, by decide, by decide, by decide +kernel⟩ (by decide) (by decide) dL_law_1094 rfl))) ?_
  refine lcons (lsnd_g (snd_g (ok_istore dL_law_1097 (by decide) rfl))) ?_
  refine lcons (lsnd_g (snd_g (ok_aload_n dL_law_1099 rfl rfl))) ?_
  refine lcons (lsnd_g (snd_g (ok_invokevirtual M_X5_thrown (C := RX5) (T := TX5) (nf := 33) rfl w_1093 w_1094 w_1095 w_49 w_1096 ⟨rfl, by decide, by decide, by decide +kernel⟩ (by decide) (by decide) dL_law_1100 rfl))) ?_
  refine lcons (lsnd_g (snd_g (ok_iload dL_law_1103 rfl))) ?_
  refine lcons (lsnd_g (snd_g (ok_icmp_eq dL_law_1105 rfl rfl))) ?_
  refine lcons (lsnd_g (snd_g (ok_iconst dL_law_1108 rfl rfl))) ?_
  refine lcons (ok_lret dL_law_1109) ?_
  refine lcons (lsnd_g (snd_g (ok_iload dL_law_1110 rfl))) ?_
  refine lcons (lsnd_g (snd_g (ok_if_ne dL_law_1112 rfl rfl))) ?_
  refine lcons (lsnd_g (snd_g (ok_aload_n dL_law_1115 rfl rfl))) ?_
  refine lcons (lsnd_g (snd_g (ok_iconst dL_law_1116 rfl rfl))) ?_
  refine lcons (lsnd_g (snd_g (ok_laload dL_law_1117 rfl))) ?_
  refine lcons (lsnd_g (snd_g (ok_iload dL_law_1118 rfl))) ?_
  refine lcons (lsnd_g (snd_g (ok_i2l dL_law_1120 rfl))) ?_
  refine lcons (lsnd_g (snd_g (ok_lcmp dL_law_1121 rfl))) ?_
  refine lcons (lsnd_g (snd_g (ok_if_eq dL_law_1122 rfl rfl))) ?_
  refine lcons (lsnd_g (snd_g (ok_iconst dL_law_1125 rfl rfl))) ?_
  refine lcons (ok_lret dL_law_1126) ?_
  refine lcons (lsnd_g (snd_g (ok_goto dL_law_1127 rfl))) ?_
  exact fun _ h => nomatch h

