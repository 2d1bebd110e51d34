def dl_3 : List (Nat × (Instr × Nat)) := [(742, (.iadd, 1)), (743, (.iaload, 1)), (744, (.aload_n 0, 1)), (745, (.iload_n 3, 1)), (746, (.iconst 2, 1)), (747, (.iadd, 1)), (748, (.iaload, 1)), (749, (.invokevirtual 67, 3)), (752, (.pop, 1)), (753, (.aload_n 2, 1)), (754, (.aload_n 0, 1)), (755, (.iload_n 3, 1)), (756, (.iconst 1, 1)), (757, (.iadd, 1)), (758, (.iaload, 1)), (759, (.aload_n 0, 1)), (760, (.iload_n 3, 1)), (761, (.iconst 2, 1)), (762, (.iadd, 1)), (763, (.iaload, 1)), (764, (.invokevirtual 70, 3)), (767, (.pop, 1)), (768, (.goto 1892, 3)), (771, (.aload_n 1, 1)), (772, (.aload_n 0, 1)), (773, (.iload_n 3, 1)), (774, (.iconst 1, 1)), (775, (.iadd, 1)), (776, (.iaload, 1)), (777, (.aload_n 0, 1)), (778, (.iload_n 3, 1)), (779, (.iconst 2, 1)), (780, (.iadd, 1)), (781, (.iaload, 1)), (782, (.aload_n 0, 1)), (783, (.iload_n 3, 1)), (784, (.iconst 3, 1)), (785, (.iadd, 1)), (786, (.iaload, 1)), (787, (.invokevirtual 71, 3)), (790, (.pop2, 1)), (791, (.aload_n 2, 1)), (792, (.aload_n 0, 1)), (793, (.iload_n 3, 1)), (794, (.iconst 1, 1)), (795, (.iadd, 1)), (796, (.iaload, 1)), (797, (.aload_n 0, 1)), (798, (.iload_n 3, 1)), (799, (.iconst 2, 1)), (800, (.iadd, 1)), (801, (.iaload, 1)), (802, (.aload_n 0, 1)), (803, (.iload_n 3, 1)), (804, (.iconst 3, 1)), (805, (.iadd, 1)), (806, (.iaload, 1)), (807, (.invokevirtual 74, 3)), (810, (.pop2, 1)), (811, (.goto 1849, 3)), (814, (.aload_n 1, 1)), (815, (.aload_n 0, 1)), (816, (.iload_n 3, 1)), (817, (.iconst 1, 1)), (818, (.iadd, 1)), (819, (.iaload, 1)), (820, (.aload_n 0, 1)), (821, (.iload_n 3, 1)), (822, (.iconst 2, 1)), (823, (.iadd, 1)), (824, (.iaload, 1)), (825, (.aload_n 0, 1)), (826, (.iload_n 3, 1)), (827, (.iconst 3, 1)), (828, (.iadd, 1)), (829, (.iaload, 1)), (830, (.invokevirtual 75, 3)), (833, (.pop2, 1)), (834, (.aload_n 2, 1)), (835, (.aload_n 0, 1)), (836, (.iload_n 3, 1)), (837, (.iconst 1, 1)), (838, (.iadd, 1)), (839, (.iaload, 1)), (840, (.aload_n 0, 1)), (841, (.iload_n 3, 1)), (842, (.iconst 2, 1)), (843, (.iadd, 1)), (844, (.iaload, 1)), (845, (.aload_n 0, 1)), (846, (.iload_n 3, 1)), (847, (.iconst 3, 1)), (848, (.iadd, 1)), (849, (.iaload, 1)), (850, (.invokevirtual 78, 3)), (853, (.pop2, 1)), (854, (.goto 1806, 3)), (857, (.aload_n 1, 1)), (858, (.aload_n 0, 1)), (859, (.iload_n 3, 1))]
set_option maxRecDepth 100000 in
theorem dl_3_ok : ∀ x ∈ dl_3, decode code x.1 = .ok x.2 := by decide +kernel
set_option maxRecDepth 100000 in
theorem dL_law_742 : decode code 742 = .ok (.iadd, 1) := dl_3_ok (742, (.iadd, 1)) (List.mem_of_getElem? (i := 0) rfl)
set_option maxRecDepth 100000 in
theorem dL_law_743 : decode code 743 = .ok (.iaload, 1) := dl_3_ok (743, (.iaload, 1)) (List.mem_of_getElem? (i := 1) rfl)
set_option maxRecDepth 100000 in
theorem dL_law_744 : decode code 744 = .ok (.aload_n 0, 1) := dl_3_ok (744, (.aload_n 0, 1)) (List.mem_of_getElem? (i := 2) rfl)
set_option maxRecDepth 100000 in
theorem dL_law_745 : decode code 745 = .ok (.iload_n 3, 1) := dl_3_ok (745, (.iload_n 3, 1)) (List.mem_of_getElem? (i := 3) rfl)
set_option maxRecDepth 100000 in
theorem dL_law_746 : decode code 746 = .ok (.iconst 2, 1) := dl_3_ok (746, (.iconst 2, 1)) (List.mem_of_getElem? (i := 4) rfl)
set_option maxRecDepth 100000 in
theorem dL_law_747 : decode code 747 = .ok (.iadd, 1) := dl_3_ok (747, (.iadd, 1)) (List.mem_of_getElem? (i := 5) rfl)
set_option maxRecDepth 100000 in
theorem dL_law_748 : decode code 748 = .ok (.iaload, 1) := dl_3_ok (748, (.iaload, 1)) (List.mem_of_getElem? (i := 6) rfl)
set_option maxRecDepth 100000 in
theorem dL_law_749 : decode code 749 = .ok (.invokevirtual 67, 3) := dl_3_ok (749, (.invokevirtual 67, 3)) (List.mem_of_getElem? (i := 7) rfl)
set_option maxRecDepth 100000 in
theorem dL_law_752 : decode code 752 = .ok (.pop, 1) := dl_3_ok (752, (.pop, 1)) (List.mem_of_getElem? (i := 8) rfl)
set_option maxRecDepth 100000 in
theorem dL_law_753 : decode code 753 = .ok (.aload_n 2, 1) := dl_3_ok (753, (.aload_n 2, 1)) (List.mem_of_getElem? (i := 9) rfl)
set_option maxRecDepth 100000 in
theorem dL_law_754 : decode code 754 = .ok (.aload_n 0, 1) := dl_3_ok (754, (.aload_n 0, 1)) (List.mem_of_getElem? (i := 10) rfl)
set_option maxRecDepth 100000 in
theorem dL_law_755 : decode code 755 = .ok (.iload_n 3, 1) := dl_3_ok (755, (.iload_n 3, 1)) (List.mem_of_getElem? (i := 11) rfl)
set_option maxRecDepth 100000 in
theorem dL_law_756 : decode code 756 = .ok (.iconst 1, 1) := dl_3_ok (756, (.iconst 1, 1)) (List.mem_of_getElem? (i := 12) rfl)
set_option maxRecDepth 100000 in
theorem dL_law_757 : decode code 757 = .ok (.iadd, 1) := dl_3_ok (757, (.iadd, 1)) (List.mem_of_getElem? (i := 13) rfl)
set_option maxRecDepth 100000 in
theorem dL_law_758 : decode code 758 = .ok (.iaload, 1) := dl_3_ok (758, (.iaload, 1)) (List.mem_of_getElem? (i := 14) rfl)
set_option maxRecDepth 100000 in
theorem dL_law_759 : decode code 759 = .ok (.aload_n 0, 1) := dl_3_ok (759, (.aload_n 0, 1)) (List.mem_of_getElem? (i := 15) rfl)
set_option maxRecDepth 100000 in
theorem dL_law_760 : decode code 760 = .ok (.iload_n 3, 1) := dl_3_ok (760, (.iload_n 3, 1)) (List.mem_of_getElem? (i := 16) rfl)
set_option maxRecDepth 100000 in
theorem dL_law_761 : decode code 761 = .ok (.iconst 2, 1) := dl_3_ok (761, (.iconst 2, 1)) (List.mem_of_getElem? (i := 17) rfl)
set_option maxRecDepth 100000 in
theorem dL_law_762 : decode code 762 = .ok (.iadd, 1) := dl_3_ok (762, (.iadd, 1)) (List.mem_of_getElem? (i := 18) rfl)
set_option maxRecDepth 100000 in
theorem dL_law_763 : decode code 763 = .ok (.iaload, 1) := dl_3_ok (763, (.iaload, 1)) (List.mem_of_getElem? (i := 19) rfl)
set_option maxRecDepth 100000 in
theorem dL_law_764 : decode code 764 = .ok (.invokevirtual 70, 3) := dl_3_ok (764, (.invokevirtual 70, 3)) (List.mem_of_getElem? (i := 20) rfl)
set_option maxRecDepth 100000 in
theorem dL_law_767 : decode code 767 = .ok (.pop, 1) := dl_3_ok (767, (.pop, 1)) (List.mem_of_getElem? (i := 21) rfl)
set_option maxRecDepth 100000 in
theorem dL_law_768 : decode code 768 = .ok (.goto 1892, 3) := dl_3_ok (768, (.goto 1892, 3)) (List.mem_of_getElem? (i := 22) rfl)
set_option maxRecDepth 100000 in
theorem dL_law_771 : decode code 771 = .ok (.aload_n 1, 1) := dl_3_ok (771, (.aload_n 1, 1)) (List.mem_of_getElem? (i := 23) rfl)
set_option maxRecDepth 100000 in
theorem dL_law_772 : decode code 772 = .ok (.aload_n 0, 1) := dl_3_ok (772, (.aload_n 0, 1)) (List.mem_of_getElem? (i := 24) rfl)
set_option maxRecDepth 100000 in
theorem dL_law_773 : decode code 773 = .ok (.iload_n 3, 1) := dl_3_ok (773, (.iload_n 3, 1)) (List.mem_of_getElem? (i := 25) rfl)
set_option maxRecDepth 100000 in
theorem dL_law_774 : decode code 774 = .ok (.iconst 1, 1) := dl_3_ok (774, (.iconst 1, 1)) (List.mem_of_getElem? (i := 26) rfl)
set_option maxRecDepth 100000 in
theorem dL_law_775 : decode code 775 = .ok (.iadd, 1) := dl_3_ok (775, (.iadd, 1)) (List.mem_of_getElem? (i := 27) rfl)
set_option maxRecDepth 100000 in
theorem dL_law_776 : decode code 776 = .ok (.iaload, 1) := dl_3_ok (776, (.iaload, 1)) (List.mem_of_getElem? (i := 28) rfl)
set_option maxRecDepth 100000 in
theorem dL_law_777 : decode code 777 = .ok (.aload_n 0, 1) := dl_3_ok (777, (.aload_n 0, 1)) (List.mem_of_getElem? (i := 29) rfl)
set_option maxRecDepth 100000 in
theorem dL_law_778 : decode code 778 = .ok (.iload_n 3, 1) := dl_3_ok (778, (.iload_n 3, 1)) (List.mem_of_getElem? (i := 30) rfl)
set_option maxRecDepth 100000 in
theorem dL_law_779 : decode code 779 = .ok (.iconst 2, 1) := dl_3_ok (779, (.iconst 2, 1)) (List.mem_of_getElem? (i := 31) rfl)
set_option maxRecDepth 100000 in
theorem dL_law_780 : decode code 780 = .ok (.iadd, 1) := dl_3_ok (780, (.iadd, 1)) (List.mem_of_getElem? (i := 32) rfl)
set_option maxRecDepth 100000 in
theorem dL_law_781 : decode code 781 = .ok (.iaload, 1) := dl_3_ok (781, (.iaload, 1)) (List.mem_of_getElem? (i := 33) rfl)
set_option maxRecDepth 100000 in
theorem dL_law_782 : decode code 782 = .ok (.aload_n 0, 1) := dl_3_ok (782, (.aload_n 0, 1)) (List.mem_of_getElem? (i := 34) rfl)
set_option maxRecDepth 100000 in
theorem dL_law_783 : decode code 783 = .ok (.iload_n 3, 1) := dl_3_ok (783, (.iload_n 3, 1)) (List.mem_of_getElem? (i := 35) rfl)
set_option maxRecDepth 100000 in
theorem dL_law_784 : decode code 784 = .ok (.iconst 3, 1) := dl_3_ok (784, (.iconst 3, 1)) (List.mem_of_getElem? (i := 36) rfl)
set_option maxRecDepth 100000 in
theorem dL_law_785 : decode code 785 = .ok (.iadd, 1) := dl_3_ok (785, (.iadd, 1)) (List.mem_of_getElem? (i := 37) rfl)
set_option maxRecDepth 100000 in
theorem dL_law_786 : decode code 786 = .ok (.iaload, 1) := dl_3_ok (786, (.iaload, 1)) (List.mem_of_getElem? (i := 38) rfl)
set_option maxRecDepth 100000 in
theorem dL_law_787 : decode code 787 = .ok (.invokevirtual 71, 3) := dl_3_ok (787, (.invokevirtual 71, 3)) (List.mem_of_getElem? (i := 39) rfl)
set_option maxRecDepth 100000 in
theorem dL_law_790 : decode code 790 = .ok (.pop2, 1) := dl_3_ok (790, (.pop2, 1)) (List.mem_of_getElem? (i := 40) rfl)
set_option maxRecDepth 100000 in
theorem dL_law_791 : decode code 791 = .ok (.aload_n 2, 1) := dl_3_ok (791, (.aload_n 2, 1)) (List.mem_of_getElem? (i := 41) rfl)
set_option maxRecDepth 100000 in
theorem dL_law_792 : decode code 792 = .ok (.aload_n 0, 1) := dl_3_ok (792, (.aload_n 0, 1)) (List.mem_of_getElem? (i := 42) rfl)
set_option maxRecDepth 100000 in
theorem dL_law_793 : decode code 793 = .ok (.iload_n 3, 1) := dl_3_ok (793, (.iload_n 3, 1)) (List.mem_of_getElem? (i := 43) rfl)
set_option maxRecDepth 100000 in
theorem dL_law_794 : decode code 794 = .ok (.iconst 1, 1) := dl_3_ok (794, (.iconst 1, 1)) (List.mem_of_getElem? (i := 44) rfl)
set_option maxRecDepth 100000 in
theorem dL_law_795 : decode code 795 = .ok (.iadd, 1) := dl_3_ok (795, (.iadd, 1)) (List.mem_of_getElem? (i := 45) rfl)
set_option maxRecDepth 100000 in
theorem dL_law_796 : decode code 796 = .ok (.iaload, 1) := dl_3_ok (796, (.iaload, 1)) (List.mem_of_getElem? (i := 46) rfl)
set_option maxRecDepth 100000 in
theorem dL_law_797 : decode code 797 = .ok (.aload_n 0, 1) := dl_3_ok (797, (.aload_n 0, 1)) (List.mem_of_getElem? (i := 47) rfl)
set_option maxRecDepth 100000 in
theorem dL_law_798 : decode code 798 = .ok (.iload_n 3, 1) := dl_3_ok (798, (.iload_n 3, 1)) (List.mem_of_getElem? (i := 48) rfl)
set_option maxRecDepth 100000 in
theorem dL_law_799 : decode code 799 = .ok (.iconst 2, 1) := dl_3_ok (799, (.iconst 2, 1)) (List.mem_of_getElem? (i := 49) rfl)
set_option maxRecDepth 100000 in
theorem dL_law_800 : decode code 800 = .ok (.iadd, 1) := dl_3_ok (800, (.iadd, 1)) (List.mem_of_getElem? (i := 50) rfl)
set_option maxRecDepth 100000 in
theorem dL_law_801 : decode code 801 = .ok (.iaload, 1) := dl_3_ok (801, (.iaload, 1)) (List.mem_of_getElem? (i := 51) rfl)
set_option maxRecDepth 100000 in
theorem dL_law_802 : decode code 802 = .ok (.aload_n 0, 1) := dl_3_ok (802, (.aload_n 0, 1)) (List.mem_of_getElem? (i := 52) rfl)
set_option maxRecDepth 100000 in
theorem dL_law_803 : decode code 803 = .ok (.iload_n 3, 1) := dl_3_ok (803, (.iload_n 3, 1)) (List.mem_of_getElem? (i := 53) rfl)
set_option maxRecDepth 100000 in
theorem dL_law_804 : decode code 804 = .ok (.iconst 3, 1) := dl_3_ok (804, (.iconst 3, 1)) (List.mem_of_getElem? (i := 54) rfl)
set_option maxRecDepth 100000 in
theorem dL_law_805 : decode code 805 = .ok (.iadd, 1) := dl_3_ok (805, (.iadd, 1)) (List.mem_of_getElem? (i := 55) rfl)
set_option maxRecDepth 100000 in
theorem dL_law_806 : decode code 806 = .ok (.iaload, 1) := dl_3_ok (806, (.iaload, 1)) (List.mem_of_getElem? (i := 56) rfl)
set_option maxRecDepth 100000 in
theorem dL_law_807 : decode code 807 = .ok (.invokevirtual 74, 3) := dl_3_ok (807, (.invokevirtual 74, 3)) (List.mem_of_getElem? (i := 57) rfl)
set_option maxRecDepth 100000 in
theorem dL_law_810 : decode code 810 = .ok (.pop2, 1) := dl_3_ok (810, (.pop2, 1)) (List.mem_of_getElem? (i := 58) rfl)
set_option maxRecDepth 100000 in
theorem dL_law_811 : decode code 811 = .ok (.goto 1849, 3) := dl_3_ok (811, (.goto 1849, 3)) (List.mem_of_getElem? (i := 59) rfl)
set_option maxRecDepth 100000 in
theorem dL_law_814 : decode code 814 = .ok (.aload_n 1, 1) := dl_3_ok (814, (.aload_n 1, 1)) (List.mem_of_getElem? (i := 60) rfl)
set_option maxRecDepth 100000 in
theorem dL_law_815 : decode code 815 = .ok (.aload_n 0, 1) := dl_3_ok (815, (.aload_n 0, 1)) (List.mem_of_getElem? (i := 61) rfl)
set_option maxRecDepth 100000 in
theorem dL_law_816 : decode code 816 = .ok (.iload_n 3, 1) := dl_3_ok (816, (.iload_n 3, 1)) (List.mem_of_getElem? (i := 62) rfl)
set_option maxRecDepth 100000 in
theorem dL_law_817 : decode code 817 = .ok (.iconst 1, 1) := dl_3_ok (817, (.iconst 1, 1)) (List.mem_of_getElem? (i := 63) rfl)
set_option maxRecDepth 100000 in
theorem dL_law_818 : decode code 818 = .ok (.iadd, 1) := dl_3_ok (818, (.iadd, 1)) (List.mem_of_getElem? (i := 64) rfl)
set_option maxRecDepth 100000 in
theorem dL_law_819 : decode code 819 = .ok (.iaload, 1) := dl_3_ok (819, (.iaload, 1)) (List.mem_of_getElem? (i := 65) rfl)
set_option maxRecDepth 100000 in
theorem dL_law_820 : decode code 820 = .ok (.aload_n 0, 1) := dl_3_ok (820, (.aload_n 0, 1)) (List.mem_of_getElem? (i := 66) rfl)
set_option maxRecDepth 100000 in
theorem dL_law_821 : decode code 821 = .ok (.iload_n 3, 1) := dl_3_ok (821, (.iload_n 3, 1)) (List.mem_of_getElem? (i := 67) rfl)
set_option maxRecDepth 100000 in
theorem dL_law_822 : decode code 822 = .ok (.iconst 2, 1) := dl_3_ok (822, (.iconst 2, 1)) (List.mem_of_getElem? (i := 68) rfl)
set_option maxRecDepth 100000 in
theorem dL_law_823 : decode code 823 = .ok (.iadd, 1) := dl_3_ok (823, (.iadd, 1)) (List.mem_of_getElem? (i := 69) rfl)
set_option maxRecDepth 100000 in
theorem dL_law_824 : decode code 824 = .ok (.iaload, 1) := dl_3_ok (824, (.iaload, 1)) (List.mem_of_getElem? (i := 70) rfl)
set_option maxRecDepth 100000 in
theorem dL_law_825 : decode code 825 = .ok (.aload_n 0, 1) := dl_3_ok (825, (.aload_n 0, 1)) (List.mem_of_getElem? (i := 71) rfl)
set_option maxRecDepth 100000 in
theorem dL_law_826 : decode code 826 = .ok (.iload_n 3, 1) := dl_3_ok (826, (.iload_n 3, 1)) (List.mem_of_getElem? (i := 72) rfl)
set_option maxRecDepth 100000 in
theorem dL_law_827 : decode code 827 = .ok (.iconst 3, 1) := dl_3_ok (827, (.iconst 3, 1)) (List.mem_of_getElem? (i := 73) rfl)
set_option maxRecDepth 100000 in
theorem dL_law_828 : decode code 828 = .ok (.iadd, 1) := dl_3_ok (828, (.iadd, 1)) (List.mem_of_getElem? (i := 74) rfl)
set_option maxRecDepth 100000 in
theorem dL_law_829 : decode code 829 = .ok (.iaload, 1) := dl_3_ok (829, (.iaload, 1)) (List.mem_of_getElem? (i := 75) rfl)
set_option maxRecDepth 100000 in
theorem dL_law_830 : decode code 830 = .ok (.invokevirtual 75, 3) := dl_3_ok (830, (.invokevirtual 75, 3)) (List.mem_of_getElem? (i := 76) rfl)
set_option maxRecDepth 100000 in
theorem dL_law_833 : decode code 833 = .ok (.pop2, 1) := dl_3_ok (833, (.pop2, 1)) (List.mem_of_getElem? (i := 77) rfl)
set_option maxRecDepth 100000 in
theorem dL_law_834 : decode code 834 = .ok (.aload_n 2, 1) := dl_3_ok (834, (.aload_n 2, 1)) (List.mem_of_getElem? (i := 78) rfl)
set_option maxRecDepth 100000 in
theorem dL_law_835 : decode code 835 = .ok (.aload_n 0, 1) := dl_3_ok (835, (.aload_n 0, 1)) (List.mem_of_getElem? (i := 79) rfl)
set_option maxRecDepth 100000 in
theorem dL_law_836 : decode code 836 = .ok (.iload_n 3, 1) := dl_3_ok (836, (.iload_n 3, 1)) (List.mem_of_getElem? (i := 80) rfl)
set_option maxRecDepth 100000 in
theorem dL_law_837 : decode code 837 = .ok (.iconst 1, 1) := dl_3_ok (837, (.iconst 1, 1)) (List.mem_of_getElem? (i := 81) rfl)
set_option maxRecDepth 100000 in
theorem dL_law_838 : decode code 838 = .ok (.iadd, 1) := dl_3_ok (838, (.iadd, 1)) (List.mem_of_getElem? (i := 82) rfl)
set_option maxRecDepth 100000 in
theorem dL_law_839 : decode code 839 = .ok (.iaload, 1) := dl_3_ok (839, (.iaload, 1)) (List.mem_of_getElem? (i := 83) rfl)
set_option maxRecDepth 100000 in
theorem dL_law_840 : decode code 840 = .ok (.aload_n 0, 1) := dl_3_ok (840, (.aload_n 0, 1)) (List.mem_of_getElem? (i := 84) rfl)
set_option maxRecDepth 100000 in
theorem dL_law_841 : decode code 841 = .ok (.iload_n 3, 1) := dl_3_ok (841, (.iload_n 3, 1)) (List.mem_of_getElem? (i := 85) rfl)
set_option maxRecDepth 100000 in
theorem dL_law_842 : decode code 842 = .ok (.iconst 2, 1) := dl_3_ok (842, (.iconst 2, 1)) (List.mem_of_getElem? (i := 86) rfl)
set_option maxRecDepth 100000 in
theorem dL_law_843 : decode code 843 = .ok (.iadd, 1) := dl_3_ok (843, (.iadd, 1)) (List.mem_of_getElem? (i := 87) rfl)
set_option maxRecDepth 100000 in
theorem dL_law_844 : decode code 844 = .ok (.iaload, 1) := dl_3_ok (844, (.iaload, 1)) (List.mem_of_getElem? (i := 88) rfl)
set_option maxRecDepth 100000 in
theorem dL_law_845 : decode code 845 = .ok (.aload_n 0, 1) := dl_3_ok (845, (.aload_n 0, 1)) (List.mem_of_getElem? (i := 89) rfl)
set_option maxRecDepth 100000 in
theorem dL_law_846 : decode code 846 = .ok (.iload_n 3, 1) := dl_3_ok (846, (.iload_n 3, 1)) (List.mem_of_getElem? (i := 90) rfl)
set_option maxRecDepth 100000 in
theorem dL_law_847 : decode code 847 = .ok (.iconst 3, 1) := dl_3_ok (847, (.iconst 3, 1)) (List.mem_of_getElem? (i := 91) rfl)
set_option maxRecDepth 100000 in
theorem dL_law_848 : decode code 848 = .ok (.iadd, 1) := dl_3_ok (848, (.iadd, 1)) (List.mem_of_getElem? (i := 92) rfl)
set_option maxRecDepth 100000 in
theorem dL_law_849 : decode code 849 = .ok (.iaload, 1) := dl_3_ok (849, (.iaload, 1)) (List.mem_of_getElem? (i := 93) rfl)
set_option maxRecDepth 100000 in
theorem dL_law_850 : decode code 850 = .ok (.invokevirtual 78, 3) := dl_3_ok (850, (.invokevirtual 78, 3)) (List.mem_of_getElem? (i := 94) rfl)
set_option maxRecDepth 100000 in
theorem dL_law_853 : decode code 853 = .ok (.pop2, 1) := dl_3_ok (853, (.pop2, 1)) (List.mem_of_getElem? (i := 95) rfl)
set_option maxRecDepth 100000 in
theorem dL_law_854 : decode code 854 = .ok (.goto 1806, 3) := dl_3_ok (854, (.goto 1806, 3)) (List.mem_of_getElem? (i := 96) rfl)
set_option maxRecDepth 100000 in
theorem dL_law_857 : decode code 857 = .ok (.aload_n 1, 1) := dl_3_ok (857, (.aload_n 1, 1)) (List.mem_of_getElem? (i := 97) rfl)
set_option maxRecDepth 100000 in
theorem dL_law_858 : decode code 858 = .ok (.aload_n 0, 1) := dl_3_ok (858, (.aload_n 0, 1)) (List.mem_of_getElem? (i := 98) rfl)
set_option maxRecDepth 100000 in
theorem dL_law_859 : decode code 859 = .ok (.iload_n 3, 1) := dl_3_ok (859, (.iload_n 3, 1)) (List.mem_of_getElem? (i := 99) rfl)
def dl_4 : List (Nat × (Instr × Nat)) := [(860, (.iconst 1, 1)), (861, (.iadd, 1)), (862, (.iaload, 1)), (863, (.invokevirtual 79, 3)), (866, (.pop, 1)), (867, (.aload_n 2, 1)), (868, (.aload_n 0, 1)), (869, (.iload_n 3, 1)), (870, (.iconst 1, 1)), (871, (.iadd, 1)), (872, (.iaload, 1)), (873, (.invokevirtual 82, 3)), (876, (.pop, 1)), (877, (.goto 1783, 3)), (880, (.aload_n 1, 1)), (881, (.aload_n 0, 1)), (882, (.iload_n 3, 1)), (883, (.iconst 1, 1)), (884, (.iadd, 1)), (885, (.iaload, 1)), (886, (.invokevirtual 83, 3)), (889, (.pop, 1)), (890, (.aload_n 2, 1)), (891, (.aload_n 0, 1)), (892, (.iload_n 3, 1)), (893, (.iconst 1, 1)), (894, (.iadd, 1)), (895, (.iaload, 1)), (896, (.invokevirtual 86, 3)), (899, (.pop, 1)), (900, (.goto 1760, 3)), (903, (.aload_n 1, 1)), (904, (.aload_n 0, 1)), (905, (.iload_n 3, 1)), (906, (.iconst 1, 1)), (907, (.iadd, 1)), (908, (.iaload, 1)), (909, (.invokevirtual 87, 3)), (912, (.pop, 1)), (913, (.aload_n 2, 1)), (914, (.aload_n 0, 1)), (915, (.iload_n 3, 1)), (916, (.iconst 1, 1)), (917, (.iadd, 1)), (918, (.iaload, 1)), (919, (.invokevirtual 90, 3)), (922, (.pop, 1)), (923, (.goto 1737, 3)), (926, (.aload_n 1, 1)), (927, (.aload_n 0, 1)), (928, (.iload_n 3, 1)), (929, (.iconst 1, 1)), (930, (.iadd, 1)), (931, (.iaload, 1)), (932, (.invokevirtual 91, 3)), (935, (.pop, 1)), (936, (.aload_n 2, 1)), (937, (.aload_n 0, 1)), (938, (.iload_n 3, 1)), (939, (.iconst 1, 1)), (940, (.iadd, 1)), (941, (.iaload, 1)), (942, (.invokevirtual 94, 3)), (945, (.pop, 1)), (946, (.goto 1714, 3)), (949, (.aload_n 1, 1)), (950, (.aload_n 0, 1)), (951, (.iload_n 3, 1)), (952, (.iconst 1, 1)), (953, (.iadd, 1)), (954, (.iaload, 1)), (955, (.invokevirtual 95, 3)), (958, (.pop, 1)), (959, (.aload_n 2, 1)), (960, (.aload_n 0, 1)), (961, (.iload_n 3, 1)), (962, (.iconst 1, 1)), (963, (.iadd, 1)), (964, (.iaload, 1)), (965, (.invokevirtual 98, 3)), (968, (.pop, 1)), (969, (.goto 1691, 3)), (972, (.aload_n 1, 1)), (973, (.aload_n 0, 1)), (974, (.iload_n 3, 1)), (975, (.iconst 1, 1)), (976, (.iadd, 1)), (977, (.iaload, 1)), (978, (.invokevirtual 99, 3)), (981, (.pop, 1)), (982, (.aload_n 2, 1)), (983, (.aload_n 0, 1)), (984, (.iload_n 3, 1)), (985, (.iconst 1, 1)), (986, (.iadd, 1)), (987, (.iaload, 1)), (988, (.invokevirtual 102, 3)), (991, (.pop, 1)), (992, (.goto 1668, 3)), (995, (.aload_n 1, 1))]
set_option maxRecDepth 100000 in
theorem dl_4_ok : ∀ x ∈ dl_4, decode code x.1 = .ok x.2 := by decide +kernel
set_option maxRecDepth 100000 in
theorem dL_law_860 : decode code 860 = .ok (.iconst 1, 1) := dl_4_ok (860, (.iconst 1, 1)) (List.mem_of_getElem? (i := 0) rfl)
set_option maxRecDepth 100000 in
theorem dL_law_861 : decode code 861 = .ok (.iadd, 1) := dl_4_ok (861, (.iadd, 1)) (List.mem_of_getElem? (i := 1) rfl)
set_option maxRecDepth 100000 in
theorem dL_law_862 : decode code 862 = .ok (.iaload, 1) := dl_4_ok (862, (.iaload, 1)) (List.mem_of_getElem? (i := 2) rfl)
set_option maxRecDepth 100000 in
theorem dL_law_863 : decode code 863 = .ok (.invokevirtual 79, 3) := dl_4_ok (863, (.invokevirtual 79, 3)) (List.mem_of_getElem? (i := 3) rfl)
set_option maxRecDepth 100000 in
theorem dL_law_866 : decode code 866 = .ok (.pop, 1) := dl_4_ok (866, (.pop, 1)) (List.mem_of_getElem? (i := 4) rfl)
set_option maxRecDepth 100000 in
theorem dL_law_867 : decode code 867 = .ok (.aload_n 2, 1) := dl_4_ok (867, (.aload_n 2, 1)) (List.mem_of_getElem? (i := 5) rfl)
set_option maxRecDepth 100000 in
theorem dL_law_868 : decode code 868 = .ok (.aload_n 0, 1) := dl_4_ok (868, (.aload_n 0, 1)) (List.mem_of_getElem? (i := 6) rfl)
set_option maxRecDepth 100000 in
theorem dL_law_869 : decode code 869 = .ok (.iload_n 3, 1) := dl_4_ok (869, (.iload_n 3, 1)) (List.mem_of_getElem? (i := 7) rfl)
set_option maxRecDepth 100000 in
theorem dL_law_870 : decode code 870 = .ok (.iconst 1, 1) := dl_4_ok (870, (.iconst 1, 1)) (List.mem_of_getElem? (i := 8) rfl)
set_option maxRecDepth 100000 in
theorem dL_law_871 : decode code 871 = .ok (.iadd, 1) := dl_4_ok (871, (.iadd, 1)) (List.mem_of_getElem? (i := 9) rfl)
set_option maxRecDepth 100000 in
theorem dL_law_872 : decode code 872 = .ok (.iaload, 1) := dl_4_ok (872, (.iaload, 1)) (List.mem_of_getElem? (i := 10) rfl)
set_option maxRecDepth 100000 in
theorem dL_law_873 : decode code 873 = .ok (.invokevirtual 82, 3) := dl_4_ok (873, (.invokevirtual 82, 3)) (List.mem_of_getElem? (i := 11) rfl)
set_option maxRecDepth 100000 in
theorem dL_law_876 : decode code 876 = .ok (.pop, 1) := dl_4_ok (876, (.pop, 1)) (List.mem_of_getElem? (i := 12) rfl)
set_option maxRecDepth 100000 in
theorem dL_law_877 : decode code 877 = .ok (.goto 1783, 3) := dl_4_ok (877, (.goto 1783, 3)) (List.mem_of_getElem? (i := 13) rfl)
set_option maxRecDepth 100000 in
theorem dL_law_880 : decode code 880 = .ok (.aload_n 1, 1) := dl_4_ok (880, (.aload_n 1, 1)) (List.mem_of_getElem? (i := 14) rfl)
set_option maxRecDepth 100000 in
theorem dL_law_881 : decode code 881 = .ok (.aload_n 0, 1) := dl_4_ok (881, (.aload_n 0, 1)) (List.mem_of_getElem? (i := 15) rfl)
set_option maxRecDepth 100000 in
theorem dL_law_882 : decode code 882 = .ok (.iload_n 3, 1) := dl_4_ok (882, (.iload_n 3, 1)) (List.mem_of_getElem? (i := 16) rfl)
set_option maxRecDepth 100000 in
theorem dL_law_883 : decode code 883 = .ok (.iconst 1, 1) := dl_4_ok (883, (.iconst 1, 1)) (List.mem_of_getElem? (i := 17) rfl)
set_option maxRecDepth 100000 in
theorem dL_law_884 : decode code 884 = .ok (.iadd, 1) := dl_4_ok (884, (.iadd, 1)) (List.mem_of_getElem? (i := 18) rfl)
set_option maxRecDepth 100000 in
theorem dL_law_885 : decode code 885 = .ok (.iaload, 1) := dl_4_ok (885, (.iaload, 1)) (List.mem_of_getElem? (i := 19) rfl)
set_option maxRecDepth 100000 in
theorem dL_law_886 : decode code 886 = .ok (.invokevirtual 83, 3) := dl_4_ok (886, (.invokevirtual 83, 3)) (List.mem_of_getElem? (i := 20) rfl)
set_option maxRecDepth 100000 in
theorem dL_law_889 : decode code 889 = .ok (.pop, 1) := dl_4_ok (889, (.pop, 1)) (List.mem_of_getElem? (i := 21) rfl)
set_option maxRecDepth 100000 in
theorem dL_law_890 : decode code 890 = .ok (.aload_n 2, 1) := dl_4_ok (890, (.aload_n 2, 1)) (List.mem_of_getElem? (i := 22) rfl)
set_option maxRecDepth 100000 in
theorem dL_law_891 : decode code 891 = .ok (.aload_n 0, 1) := dl_4_ok (891, (.aload_n 0, 1)) (List.mem_of_getElem? (i := 23) rfl)
set_option maxRecDepth 100000 in
theorem dL_law_892 : decode code 892 = .ok (.iload_n 3, 1) := dl_4_ok (892, (.iload_n 3, 1)) (List.mem_of_getElem? (i := 24) rfl)
set_option maxRecDepth 100000 in
theorem dL_law_893 : decode code 893 = .ok (.iconst 1, 1) := dl_4_ok (893, (.iconst 1, 1)) (List.mem_of_getElem? (i := 25) rfl)
set_option maxRecDepth 100000 in
theorem dL_law_894 : decode code 894 = .ok (.iadd, 1) := dl_4_ok (894, (.iadd, 1)) (List.mem_of_getElem? (i := 26) rfl)
set_option maxRecDepth 100000 in
theorem dL_law_895 : decode code 895 = .ok (.iaload, 1) := dl_4_ok (895, (.iaload, 1)) (List.mem_of_getElem? (i := 27) rfl)
set_option maxRecDepth 100000 in
theorem dL_law_896 : decode code 896 = .ok (.invokevirtual 86, 3) := dl_4_ok (896, (.invokevirtual 86, 3)) (List.mem_of_getElem? (i := 28) rfl)
set_option maxRecDepth 100000 in
theorem dL_law_899 : decode code 899 = .ok (.pop, 1) := dl_4_ok (899, (.pop, 1)) (List.mem_of_getElem? (i := 29) rfl)
set_option maxRecDepth 100000 in
theorem dL_law_900 : decode code 900 = .ok (.goto 1760, 3) := dl_4_ok (900, (.goto 1760, 3)) (List.mem_of_getElem? (i := 30) rfl)
set_option maxRecDepth 100000 in
theorem dL_law_903 : decode code 903 = .ok (.aload_n 1, 1) := dl_4_ok (903, (.aload_n 1, 1)) (List.mem_of_getElem? (i := 31) rfl)
set_option maxRecDepth 100000 in
theorem dL_law_904 : decode code 904 = .ok (.aload_n 0, 1) := dl_4_ok (904, (.aload_n 0, 1)) (List.mem_of_getElem? (i := 32) rfl)
set_option maxRecDepth 100000 in
theorem dL_law_905 : decode code 905 = .ok (.iload_n 3, 1) := dl_4_ok (905, (.iload_n 3, 1)) (List.mem_of_getElem? (i := 33) rfl)
set_option maxRecDepth 100000 in
theorem dL_law_906 : decode code 906 = .ok (.iconst 1, 1) := dl_4_ok (906, (.iconst 1, 1)) (List.mem_of_getElem? (i := 34) rfl)
set_option maxRecDepth 100000 in
theorem dL_law_907 : decode code 907 = .ok (.iadd, 1) := dl_4_ok (907, (.iadd, 1)) (List.mem_of_getElem? (i := 35) rfl)
set_option maxRecDepth 100000 in
theorem dL_law_908 : decode code 908 = .ok (.iaload, 1) := dl_4_ok (908, (.iaload, 1)) (List.mem_of_getElem? (i := 36) rfl)
set_option maxRecDepth 100000 in
theorem dL_law_909 : decode code 909 = .ok (.invokevirtual 87, 3) := dl_4_ok (909, (.invokevirtual 87, 3)) (List.mem_of_getElem? (i := 37) rfl)
set_option maxRecDepth 100000 in
theorem dL_law_912 : decode code 912 = .ok (.pop, 1) := dl_4_ok (912, (.pop, 1)) (List.mem_of_getElem? (i := 38) rfl)
set_option maxRecDepth 100000 in
theorem dL_law_913 : decode code 913 = .ok (.aload_n 2, 1) := dl_4_ok (913, (.aload_n 2, 1)) (List.mem_of_getElem? (i := 39) rfl)
set_option maxRecDepth 100000 in
theorem dL_law_914 : decode code 914 = .ok (.aload_n 0, 1) := dl_4_ok (914, (.aload_n 0, 1)) (List.mem_of_getElem? (i := 40) rfl)
set_option maxRecDepth 100000 in
theorem dL_law_915 : decode code 915 = .ok (.iload_n 3, 1) := dl_4_ok (915, (.iload_n 3, 1)) (List.mem_of_getElem? (i := 41) rfl)
set_option maxRecDepth 100000 in
theorem dL_law_916 : decode code 916 = .ok (.iconst 1, 1) := dl_4_ok (916, (.iconst 1, 1)) (List.mem_of_getElem? (i := 42) rfl)
set_option maxRecDepth 100000 in
theorem dL_law_917 : decode code 917 = .ok (.iadd, 1) := dl_4_ok (917, (.iadd, 1)) (List.mem_of_getElem? (i := 43) rfl)
set_option maxRecDepth 100000 in
theorem dL_law_918 : decode code 918 = .ok (.iaload, 1) := dl_4_ok (918, (.iaload, 1)) (List.mem_of_getElem? (i := 44) rfl)
set_option maxRecDepth 100000 in
theorem dL_law_919 : decode code 919 = .ok (.invokevirtual 90, 3) := dl_4_ok (919, (.invokevirtual 90, 3)) (List.mem_of_getElem? (i := 45) rfl)
set_option maxRecDepth 100000 in
theorem dL_law_922 : decode code 922 = .ok (.pop, 1) := dl_4_ok (922, (.pop, 1)) (List.mem_of_getElem? (i := 46) rfl)
set_option maxRecDepth 100000 in
theorem dL_law_923 : decode code 923 = .ok (.goto 1737, 3) := dl_4_ok (923, (.goto 1737, 3)) (List.mem_of_getElem? (i := 47) rfl)
set_option maxRecDepth 100000 in
theorem dL_law_926 : decode code 926 = .ok (.aload_n 1, 1) := dl_4_ok (926, (.aload_n 1, 1)) (List.mem_of_getElem? (i := 48) rfl)
set_option maxRecDepth 100000 in
theorem dL_law_927 : decode code 927 = .ok (.aload_n 0, 1) := dl_4_ok (927, (.aload_n 0, 1)) (List.mem_of_getElem? (i := 49) rfl)
set_option maxRecDepth 100000 in
theorem dL_law_928 : decode code 928 = .ok (.iload_n 3, 1) := dl_4_ok (928, (.iload_n 3, 1)) (List.mem_of_getElem? (i := 50) rfl)
set_option maxRecDepth 100000 in
theorem dL_law_929 : decode code 929 = .ok (.iconst 1, 1) := dl_4_ok (929, (.iconst 1, 1)) (List.mem_of_getElem? (i := 51) rfl)
set_option maxRecDepth 100000 in
theorem dL_law_930 : decode code 930 = .ok (.iadd, 1) := dl_4_ok (930, (.iadd, 1)) (List.mem_of_getElem? (i := 52) rfl)
set_option maxRecDepth 100000 in
theorem dL_law_931 : decode code 931 = .ok (.iaload, 1) := dl_4_ok (931, (.iaload, 1)) (List.mem_of_getElem? (i := 53) rfl)
set_option maxRecDepth 100000 in
theorem dL_law_932 : decode code 932 = .ok (.invokevirtual 91, 3) := dl_4_ok (932, (.invokevirtual 91, 3)) (List.mem_of_getElem? (i := 54) rfl)
set_option maxRecDepth 100000 in
theorem dL_law_935 : decode code 935 = .ok (.pop, 1) := dl_4_ok (935, (.pop, 1)) (List.mem_of_getElem? (i := 55) rfl)
set_option maxRecDepth 100000 in
theorem dL_law_936 : decode code 936 = .ok (.aload_n 2, 1) := dl_4_ok (936, (.aload_n 2, 1)) (List.mem_of_getElem? (i := 56) rfl)
set_option maxRecDepth 100000 in
theorem dL_law_937 : decode code 937 = .ok (.aload_n 0, 1) := dl_4_ok (937, (.aload_n 0, 1)) (List.mem_of_getElem? (i := 57) rfl)
set_option maxRecDepth 100000 in
theorem dL_law_938 : decode code 938 = .ok (.iload_n 3, 1) := dl_4_ok (938, (.iload_n 3, 1)) (List.mem_of_getElem? (i := 58) rfl)
set_option maxRecDepth 100000 in
theorem dL_law_939 : decode code 939 = .ok (.iconst 1, 1) := dl_4_ok (939, (.iconst 1, 1)) (List.mem_of_getElem? (i := 59) rfl)
set_option maxRecDepth 100000 in
theorem dL_law_940 : decode code 940 = .ok (.iadd, 1) := dl_4_ok (940, (.iadd, 1)) (List.mem_of_getElem? (i := 60) rfl)
set_option maxRecDepth 100000 in
theorem dL_law_941 : decode code 941 = .ok (.iaload, 1) := dl_4_ok (941, (.iaload, 1)) (List.mem_of_getElem? (i := 61) rfl)
set_option maxRecDepth 100000 in
theorem dL_law_942 : decode code 942 = .ok (.invokevirtual 94, 3) := dl_4_ok (942, (.invokevirtual 94, 3)) (List.mem_of_getElem? (i := 62) rfl)
set_option maxRecDepth 100000 in
theorem dL_law_945 : decode code 945 = .ok (.pop, 1) := dl_4_ok (945, (.pop, 1)) (List.mem_of_getElem? (i := 63) rfl)
set_option maxRecDepth 100000 in
theorem dL_law_946 : decode code 946 = .ok (.goto 1714, 3) := dl_4_ok (946, (.goto 1714, 3)) (List.mem_of_getElem? (i := 64) rfl)
set_option maxRecDepth 100000 in
theorem dL_law_949 : decode code 949 = .ok (.aload_n 1, 1) := dl_4_ok (949, (.aload_n 1, 1)) (List.mem_of_getElem? (i := 65) rfl)
set_option maxRecDepth 100000 in
theorem dL_law_950 : decode code 950 = .ok (.aload_n 0, 1) := dl_4_ok (950, (.aload_n 0, 1)) (List.mem_of_getElem? (i := 66) rfl)
set_option maxRecDepth 100000 in
theorem dL_law_951 : decode code 951 = .ok (.iload_n 3, 1) := dl_4_ok (951, (.iload_n 3, 1)) (List.mem_of_getElem? (i := 67) rfl)
set_option maxRecDepth 100000 in
theorem dL_law_952 : decode code 952 = .ok (.iconst 1, 1) := dl_4_ok (952, (.iconst 1, 1)) (List.mem_of_getElem? (i := 68) rfl)
set_option maxRecDepth 100000 in
theorem dL_law_953 : decode code 953 = .ok (.iadd, 1) := dl_4_ok (953, (.iadd, 1)) (List.mem_of_getElem? (i := 69) rfl)
set_option maxRecDepth 100000 in
theorem dL_law_954 : decode code 954 = .ok (.iaload, 1) := dl_4_ok (954, (.iaload, 1)) (List.mem_of_getElem? (i := 70) rfl)
set_option maxRecDepth 100000 in
theorem dL_law_955 : decode code 955 = .ok (.invokevirtual 95, 3) := dl_4_ok (955, (.invokevirtual 95, 3)) (List.mem_of_getElem? (i := 71) rfl)
set_option maxRecDepth 100000 in
theorem dL_law_958 : decode code 958 = .ok (.pop, 1) := dl_4_ok (958, (.pop, 1)) (List.mem_of_getElem? (i := 72) rfl)
set_option maxRecDepth 100000 in
theorem dL_law_959 : decode code 959 = .ok (.aload_n 2, 1) := dl_4_ok (959, (.aload_n 2, 1)) (List.mem_of_getElem? (i := 73) rfl)
set_option maxRecDepth 100000 in
theorem dL_law_960 : decode code 960 = .ok (.aload_n 0, 1) := dl_4_ok (960, (.aload_n 0, 1)) (List.mem_of_getElem? (i := 74) rfl)
set_option maxRecDepth 100000 in
theorem dL_law_961 : decode code 961 = .ok (.iload_n 3, 1) := dl_4_ok (961, (.iload_n 3, 1)) (List.mem_of_getElem? (i := 75) rfl)
set_option maxRecDepth 100000 in
theorem dL_law_962 : decode code 962 = .ok (.iconst 1, 1) := dl_4_ok (962, (.iconst 1, 1)) (List.mem_of_getElem? (i := 76) rfl)
set_option maxRecDepth 100000 in
theorem dL_law_963 : decode code 963 = .ok (.iadd, 1) := dl_4_ok (963, (.iadd, 1)) (List.mem_of_getElem? (i := 77) rfl)
set_option maxRecDepth 100000 in
theorem dL_law_964 : decode code 964 = .ok (.iaload, 1) := dl_4_ok (964, (.iaload, 1)) (List.mem_of_getElem? (i := 78) rfl)
set_option maxRecDepth 100000 in
theorem dL_law_965 : decode code 965 = .ok (.invokevirtual 98, 3) := dl_4_ok (965, (.invokevirtual 98, 3)) (List.mem_of_getElem? (i := 79) rfl)
set_option maxRecDepth 100000 in
theorem dL_law_968 : decode code 968 = .ok (.pop, 1) := dl_4_ok (968, (.pop, 1)) (List.mem_of_getElem? (i := 80) rfl)
set_option maxRecDepth 100000 in
theorem dL_law_969 : decode code 969 = .ok (.goto 1691, 3) := dl_4_ok (969, (.goto 1691, 3)) (List.mem_of_getElem? (i := 81) rfl)
set_option maxRecDepth 100000 in
theorem dL_law_972 : decode code 972 = .ok (.aload_n 1, 1) := dl_4_ok (972, (.aload_n 1, 1)) (List.mem_of_getElem? (i := 82) rfl)
set_option maxRecDepth 100000 in
theorem dL_law_973 : decode code 973 = .ok (.aload_n 0, 1) := dl_4_ok (973, (.aload_n 0, 1)) (List.mem_of_getElem? (i := 83) rfl)
set_option maxRecDepth 100000 in
theorem dL_law_974 : decode code 974 = .ok (.iload_n 3, 1) := dl_4_ok (974, (.iload_n 3, 1)) (List.mem_of_getElem? (i := 84) rfl)
set_option maxRecDepth 100000 in
theorem dL_law_975 : decode code 975 = .ok (.iconst 1, 1) := dl_4_ok (975, (.iconst 1, 1)) (List.mem_of_getElem? (i := 85) rfl)
set_option maxRecDepth 100000 in
theorem dL_law_976 : decode code 976 = .ok (.iadd, 1) := dl_4_ok (976, (.iadd, 1)) (List.mem_of_getElem? (i := 86) rfl)
set_option maxRecDepth 100000 in
theorem dL_law_977 : decode code 977 = .ok (.iaload, 1) := dl_4_ok (977, (.iaload, 1)) (List.mem_of_getElem? (i := 87) rfl)
set_option maxRecDepth 100000 in
theorem dL_law_978 : decode code 978 = .ok (.invokevirtual 99, 3) := dl_4_ok (978, (.invokevirtual 99, 3)) (List.mem_of_getElem? (i := 88) rfl)
set_option maxRecDepth 100000 in
theorem dL_law_981 : decode code 981 = .ok (.pop, 1) := dl_4_ok (981, (.pop, 1)) (List.mem_of_getElem? (i := 89) rfl)
set_option maxRecDepth 100000 in
theorem dL_law_982 : decode code 982 = .ok (.aload_n 2, 1) := dl_4_ok (982, (.aload_n 2, 1)) (List.mem_of_getElem? (i := 90) rfl)
set_option maxRecDepth 100000 in
theorem dL_law_983 : decode code 983 = .ok (.aload_n 0, 1) := dl_4_ok (983, (.aload_n 0, 1)) (List.mem_of_getElem? (i := 91) rfl)
set_option maxRecDepth 100000 in
theorem dL_law_984 : decode code 984 = .ok (.iload_n 3, 1) := dl_4_ok (984, (.iload_n 3, 1)) (List.mem_of_getElem? (i := 92) rfl)
set_option maxRecDepth 100000 in
theorem dL_law_985 : decode code 985 = .ok (.iconst 1, 1) := dl_4_ok (985, (.iconst 1, 1)) (List.mem_of_getElem? (i := 93) rfl)
set_option maxRecDepth 100000 in
theorem dL_law_986 : decode code 986 = .ok (.iadd, 1) := dl_4_ok (986, (.iadd, 1)) (List.mem_of_getElem? (i := 94) rfl)
set_option maxRecDepth 100000 in
theorem dL_law_987 : decode code 987 = .ok (.iaload, 1) := dl_4_ok (987, (.iaload, 1)) (List.mem_of_getElem? (i := 95) rfl)
set_option maxRecDepth 100000 in
theorem dL_law_988 : decode code 988 = .ok (.invokevirtual 102, 3) := dl_4_ok (988, (.invokevirtual 102, 3)) (List.mem_of_getElem? (i := 96) rfl)
set_option maxRecDepth 100000 in
theorem dL_law_991 : decode code 991 = .ok (.pop, 1) := dl_4_ok (991, (.pop, 1)) (List.mem_of_getElem? (i := 97) rfl)
set_option maxRecDepth 100000 in
theorem dL_law_992 : decode code 992 = .ok (.goto 1668, 3) := dl_4_ok (992, (.goto 1668, 3)) (List.mem_of_getElem? (i := 98) rfl)
set_option maxRecDepth 100000 in
theorem dL_law_995 : decode code 995 = .ok (.aload_n 1, 1) := dl_4_ok (995, (.aload_n 1, 1)) (List.mem_of_getElem? (i := 99) rfl)
def dl_5 : List (Nat × (Instr × Nat)) := [(996, (.aload_n 0, 1)), (997, (.iload_n 3, 1)), (998, (.iconst 1, 1)), (999, (.iadd, 1)), (1000, (.iaload, 1)), (1001, (.invokevirtual 103, 3)), (1004, (.pop, 1)), (1005, (.aload_n 2, 1)), (1006, (.aload_n 0, 1)), (1007, (.iload_n 3, 1)), (1008, (.iconst 1, 1)), (1009, (.iadd, 1)), (1010, (.iaload, 1)), (1011, (.invokevirtual 106, 3)), (1014, (.pop, 1)), (1015, (.goto 1645, 3)), (1018, (.aload_n 1, 1)), (1019, (.aload_n 0, 1)), (1020, (.iload_n 3, 1)), (1021, (.iconst 1, 1)), (1022, (.iadd, 1)), (1023, (.iaload, 1)), (1024, (.invokevirtual 107, 3)), (1027, (.pop, 1)), (1028, (.aload_n 2, 1)), (1029, (.aload_n 0, 1)), (1030, (.iload_n 3, 1)), (1031, (.iconst 1, 1)), (1032, (.iadd, 1)), (1033, (.iaload, 1)), (1034, (.invokevirtual 110, 3)), (1037, (.pop, 1)), (1038, (.goto 1622, 3)), (1041, (.aload_n 1, 1)), (1042, (.invokevirtual 111, 3)), (1045, (.pop, 1)), (1046, (.aload_n 2, 1)), (1047, (.invokevirtual 114, 3)), (1050, (.pop, 1)), (1051, (.goto 1609, 3)), (1054, (.aload_n 1, 1)), (1055, (.invokevirtual 115, 3)), (1058, (.pop, 1)), (1059, (.aload_n 2, 1)), (1060, (.invokevirtual 118, 3)), (1063, (.pop, 1)), (1064, (.goto 1596, 3)), (1067, (.aload_n 1, 1)), (1068, (.invokevirtual 119, 3)), (1071, (.pop, 1)), (1072, (.aload_n 2, 1)), (1073, (.invokevirtual 122, 3)), (1076, (.pop, 1)), (1077, (.goto 1583, 3)), (1080, (.aload_n 1, 1)), (1081, (.invokevirtual 123, 3)), (1084, (.pop, 1)), (1085, (.aload_n 2, 1)), (1086, (.invokevirtual 126, 3)), (1089, (.pop, 1)), (1090, (.goto 1570, 3)), (1093, (.aload_n 1, 1)), (1094, (.aload_n 0, 1)), (1095, (.iload_n 3, 1)), (1096, (.iconst 1, 1)), (1097, (.iadd, 1)), (1098, (.iaload, 1)), (1099, (.invokevirtual 127, 3)), (1102, (.pop, 1)), (1103, (.aload_n 2, 1)), (1104, (.aload_n 0, 1)), (1105, (.iload_n 3, 1)), (1106, (.iconst 1, 1)), (1107, (.iadd, 1)), (1108, (.iaload, 1)), (1109, (.invokevirtual 130, 3)), (1112, (.pop, 1)), (1113, (.goto 1547, 3)), (1116, (.aload_n 1, 1)), (1117, (.aload_n 0, 1)), (1118, (.iload_n 3, 1)), (1119, (.iconst 1, 1)), (1120, (.iadd, 1)), (1121, (.iaload, 1)), (1122, (.aload_n 0, 1)), (1123, (.iload_n 3, 1)), (1124, (.iconst 2, 1)), (1125, (.iadd, 1)), (1126, (.iaload, 1)), (1127, (.invokevirtual 131, 3)), (1130, (.pop, 1)), (1131, (.aload_n 2, 1)), (1132, (.aload_n 0, 1)), (1133, (.iload_n 3, 1)), (1134, (.iconst 1, 1)), (1135, (.iadd, 1)), (1136, (.iaload, 1)), (1137, (.aload_n 0, 1)), (1138, (.iload_n 3, 1)), (1139, (.iconst 2, 1))]
set_option maxRecDepth 100000 in
theorem dl_5_ok : ∀ x ∈ dl_5, decode code x.1 = .ok x.2 := by decide +kernel
set_option maxRecDepth 100000 in
theorem dL_law_996 : decode code 996 = .ok (.aload_n 0, 1) := dl_5_ok (996, (.aload_n 0, 1)) (List.mem_of_getElem? (i := 0) rfl)
set_option maxRecDepth 100000 in
theorem dL_law_997 : decode code 997 = .ok (.iload_n 3, 1) := dl_5_ok (997, (.iload_n 3, 1)) (List.mem_of_getElem? (i := 1) rfl)
set_option maxRecDepth 100000 in
theorem dL_law_998 : decode code 998 = .ok (.iconst 1, 1) := dl_5_ok (998, (.iconst 1, 1)) (List.mem_of_getElem? (i := 2) rfl)
set_option maxRecDepth 100000 in
theorem dL_law_999 : decode code 999 = .ok (.iadd, 1) := dl_5_ok (999, (.iadd, 1)) (List.mem_of_getElem? (i := 3) rfl)
set_option maxRecDepth 100000 in
theorem dL_law_1000 : decode code 1000 = .ok (.iaload, 1) := dl_5_ok (1000, (.iaload, 1)) (List.mem_of_getElem? (i := 4) rfl)
set_option maxRecDepth 100000 in
theorem dL_law_1001 : decode code 1001 = .ok (.invokevirtual 103, 3) := dl_5_ok (1001, (.invokevirtual 103, 3)) (List.mem_of_getElem? (i := 5) rfl)
set_option maxRecDepth 100000 in
theorem dL_law_1004 : decode code 1004 = .ok (.pop, 1) := dl_5_ok (1004, (.pop, 1)) (List.mem_of_getElem? (i := 6) rfl)
set_option maxRecDepth 100000 in
theorem dL_law_1005 : decode code 1005 = .ok (.aload_n 2, 1) := dl_5_ok (1005, (.aload_n 2, 1)) (List.mem_of_getElem? (i := 7) rfl)
set_option maxRecDepth 100000 in
theorem dL_law_1006 : decode code 1006 = .ok (.aload_n 0, 1) := dl_5_ok (1006, (.aload_n 0, 1)) (List.mem_of_getElem? (i := 8) rfl)
set_option maxRecDepth 100000 in
theorem dL_law_1007 : decode code 1007 = .ok (.iload_n 3, 1) := dl_5_ok (1007, (.iload_n 3, 1)) (List.mem_of_getElem? (i := 9) rfl)
set_option maxRecDepth 100000 in
theorem dL_law_1008 : decode code 1008 = .ok (.iconst 1, 1) := dl_5_ok (1008, (.iconst 1, 1)) (List.mem_of_getElem? (i := 10) rfl)
set_option maxRecDepth 100000 in
theorem dL_law_1009 : decode code 1009 = .ok (.iadd, 1) := dl_5_ok (1009, (.iadd, 1)) (List.mem_of_getElem? (i := 11) rfl)
set_option maxRecDepth 100000 in
theorem dL_law_1010 : decode code 1010 = .ok (.iaload, 1) := dl_5_ok (1010, (.iaload, 1)) (List.mem_of_getElem? (i := 12) rfl)
set_option maxRecDepth 100000 in
theorem dL_law_1011 : decode code 1011 = .ok (.invokevirtual 106, 3) := dl_5_ok (1011, (.invokevirtual 106, 3)) (List.mem_of_getElem? (i := 13) rfl)
set_option maxRecDepth 100000 in
theorem dL_law_1014 : decode code 1014 = .ok (.pop, 1) := dl_5_ok (1014, (.pop, 1)) (List.mem_of_getElem? (i := 14) rfl)
set_option maxRecDepth 100000 in
theorem dL_law_1015 : decode code 1015 = .ok (.goto 1645, 3) := dl_5_ok (1015, (.goto 1645, 3)) (List.mem_of_getElem? (i := 15) rfl)
set_option maxRecDepth 100000 in
theorem dL_law_1018 : decode code 1018 = .ok (.aload_n 1, 1) := dl_5_ok (1018, (.aload_n 1, 1)) (List.mem_of_getElem? (i := 16) rfl)
set_option maxRecDepth 100000 in
theorem dL_law_1019 : decode code 1019 = .ok (.aload_n 0, 1) := dl_5_ok (1019, (.aload_n 0, 1)) (List.mem_of_getElem? (i := 17) rfl)
set_option maxRecDepth 100000 in
theorem dL_law_1020 : decode code 1020 = .ok (.iload_n 3, 1) := dl_5_ok (1020, (.iload_n 3, 1)) (List.mem_of_getElem? (i := 18) rfl)
set_option maxRecDepth 100000 in
theorem dL_law_1021 : decode code 1021 = .ok (.iconst 1, 1) := dl_5_ok (1021, (.iconst 1, 1)) (List.mem_of_getElem? (i := 19) rfl)
set_option maxRecDepth 100000 in
theorem dL_law_1022 : decode code 1022 = .ok (.iadd, 1) := dl_5_ok (1022, (.iadd, 1)) (List.mem_of_getElem? (i := 20) rfl)
set_option maxRecDepth 100000 in
theorem dL_law_1023 : decode code 1023 = .ok (.iaload, 1) := dl_5_ok (1023, (.iaload, 1)) (List.mem_of_getElem? (i := 21) rfl)
set_option maxRecDepth 100000 in
theorem dL_law_1024 : decode code 1024 = .ok (.invokevirtual 107, 3) := dl_5_ok (1024, (.invokevirtual 107, 3)) (List.mem_of_getElem? (i := 22) rfl)
set_option maxRecDepth 100000 in
theorem dL_law_1027 : decode code 1027 = .ok (.pop, 1) := dl_5_ok (1027, (.pop, 1)) (List.mem_of_getElem? (i := 23) rfl)
set_option maxRecDepth 100000 in
theorem dL_law_1028 : decode code 1028 = .ok (.aload_n 2, 1) := dl_5_ok (1028, (.aload_n 2, 1)) (List.mem_of_getElem? (i := 24) rfl)
set_option maxRecDepth 100000 in
theorem dL_law_1029 : decode code 1029 = .ok (.aload_n 0, 1) := dl_5_ok (1029, (.aload_n 0, 1)) (List.mem_of_getElem? (i := 25) rfl)
set_option maxRecDepth 100000 in
theorem dL_law_1030 : decode code 1030 = .ok (.iload_n 3, 1) := dl_5_ok (1030, (.iload_n 3, 1)) (List.mem_of_getElem? (i := 26) rfl)
set_option maxRecDepth 100000 in
theorem dL_law_1031 : decode code 1031 = .ok (.iconst 1, 1) := dl_5_ok (1031, (.iconst 1, 1)) (List.mem_of_getElem? (i := 27) rfl)
set_option maxRecDepth 100000 in
theorem dL_law_1032 : decode code 1032 = .ok (.iadd, 1) := dl_5_ok (1032, (.iadd, 1)) (List.mem_of_getElem? (i := 28) rfl)
set_option maxRecDepth 100000 in
theorem dL_law_1033 : decode code 1033 = .ok (.iaload, 1) := dl_5_ok (1033, (.iaload, 1)) (List.mem_of_getElem? (i := 29) rfl)
set_option maxRecDepth 100000 in
theorem dL_law_1034 : decode code 1034 = .ok (.invokevirtual 110, 3) := dl_5_ok (1034, (.invokevirtual 110, 3)) (List.mem_of_getElem? (i := 30) rfl)
set_option maxRecDepth 100000 in
theorem dL_law_1037 : decode code 1037 = .ok (.pop, 1) := dl_5_ok (1037, (.pop, 1)) (List.mem_of_getElem? (i := 31) rfl)
set_option maxRecDepth 100000 in
theorem dL_law_1038 : decode code 1038 = .ok (.goto 1622, 3) := dl_5_ok (1038, (.goto 1622, 3)) (List.mem_of_getElem? (i := 32) rfl)
set_option maxRecDepth 100000 in
theorem dL_law_1041 : decode code 1041 = .ok (.aload_n 1, 1) := dl_5_ok (1041, (.aload_n 1, 1)) (List.mem_of_getElem? (i := 33) rfl)
set_option maxRecDepth 100000 in
theorem dL_law_1042 : decode code 1042 = .ok (.invokevirtual 111, 3) := dl_5_ok (1042, (.invokevirtual 111, 3)) (List.mem_of_getElem? (i := 34) rfl)
set_option maxRecDepth 100000 in
theorem dL_law_1045 : decode code 1045 = .ok (.pop, 1) := dl_5_ok (1045, (.pop, 1)) (List.mem_of_getElem? (i := 35) rfl)
set_option maxRecDepth 100000 in
theorem dL_law_1046 : decode code 1046 = .ok (.aload_n 2, 1) := dl_5_ok (1046, (.aload_n 2, 1)) (List.mem_of_getElem? (i := 36) rfl)
set_option maxRecDepth 100000 in
theorem dL_law_1047 : decode code 1047 = .ok (.invokevirtual 114, 3) := dl_5_ok (1047, (.invokevirtual 114, 3)) (List.mem_of_getElem? (i := 37) rfl)
set_option maxRecDepth 100000 in
theorem dL_law_1050 : decode code 1050 = .ok (.pop, 1) := dl_5_ok (1050, (.pop, 1)) (List.mem_of_getElem? (i := 38) rfl)
set_option maxRecDepth 100000 in
theorem dL_law_1051 : decode code 1051 = .ok (.goto 1609, 3) := dl_5_ok (1051, (.goto 1609, 3)) (List.mem_of_getElem? (i := 39) rfl)
set_option maxRecDepth 100000 in
theorem dL_law_1054 : decode code 1054 = .ok (.aload_n 1, 1) := dl_5_ok (1054, (.aload_n 1, 1)) (List.mem_of_getElem? (i := 40) rfl)
set_option maxRecDepth 100000 in
theorem dL_law_1055 : decode code 1055 = .ok (.invokevirtual 115, 3) := dl_5_ok (1055, (.invokevirtual 115, 3)) (List.mem_of_getElem? (i := 41) rfl)
set_option maxRecDepth 100000 in
theorem dL_law_1058 : decode code 1058 = .ok (.pop, 1) := dl_5_ok (1058, (.pop, 1)) (List.mem_of_getElem? (i := 42) rfl)
set_option maxRecDepth 100000 in
theorem dL_law_1059 : decode code 1059 = .ok (.aload_n 2, 1) := dl_5_ok (1059, (.aload_n 2, 1)) (List.mem_of_getElem? (i := 43) rfl)
set_option maxRecDepth 100000 in
theorem dL_law_1060 : decode code 1060 = .ok (.invokevirtual 118, 3) := dl_5_ok (1060, (.invokevirtual 118, 3)) (List.mem_of_getElem? (i := 44) rfl)
set_option maxRecDepth 100000 in
theorem dL_law_1063 : decode code 1063 = .ok (.pop, 1) := dl_5_ok (1063, (.pop, 1)) (List.mem_of_getElem? (i := 45) rfl)
set_option maxRecDepth 100000 in
theorem dL_law_1064 : decode code 1064 = .ok (.goto 1596, 3) := dl_5_ok (1064, (.goto 1596, 3)) (List.mem_of_getElem? (i := 46) rfl)
set_option maxRecDepth 100000 in
theorem dL_law_1067 : decode code 1067 = .ok (.aload_n 1, 1) := dl_5_ok (1067, (.aload_n 1, 1)) (List.mem_of_getElem? (i := 47) rfl)
set_option maxRecDepth 100000 in
theorem dL_law_1068 : decode code 1068 = .ok (.invokevirtual 119, 3) := dl_5_ok (1068, (.invokevirtual 119, 3)) (List.mem_of_getElem? (i := 48) rfl)
set_option maxRecDepth 100000 in
theorem dL_law_1071 : decode code 1071 = .ok (.pop, 1) := dl_5_ok (1071, (.pop, 1)) (List.mem_of_getElem? (i := 49) rfl)
set_option maxRecDepth 100000 in
theorem dL_law_1072 : decode code 1072 = .ok (.aload_n 2, 1) := dl_5_ok (1072, (.aload_n 2, 1)) (List.mem_of_getElem? (i := 50) rfl)
set_option maxRecDepth 100000 in
theorem dL_law_1073 : decode code 1073 = .ok (.invokevirtual 122, 3) := dl_5_ok (1073, (.invokevirtual 122, 3)) (List.mem_of_getElem? (i := 51) rfl)
set_option maxRecDepth 100000 in
theorem dL_law_1076 : decode code 1076 = .ok (.pop, 1) := dl_5_ok (1076, (.pop, 1)) (List.mem_of_getElem? (i := 52) rfl)
set_option maxRecDepth 100000 in
theorem dL_law_1077 : decode code 1077 = .ok (.goto 1583, 3) := dl_5_ok (1077, (.goto 1583, 3)) (List.mem_of_getElem? (i := 53) rfl)
set_option maxRecDepth 100000 in
theorem dL_law_1080 : decode code 1080 = .ok (.aload_n 1, 1) := dl_5_ok (1080, (.aload_n 1, 1)) (List.mem_of_getElem? (i := 54) rfl)
set_option maxRecDepth 100000 in
theorem dL_law_1081 : decode code 1081 = .ok (.invokevirtual 123, 3) := dl_5_ok (1081, (.invokevirtual 123, 3)) (List.mem_of_getElem? (i := 55) rfl)
set_option maxRecDepth 100000 in
theorem dL_law_1084 : decode code 1084 = .ok (.pop, 1) := dl_5_ok (1084, (.pop, 1)) (List.mem_of_getElem? (i := 56) rfl)
set_option maxRecDepth 100000 in
theorem dL_law_1085 : decode code 1085 = .ok (.aload_n 2, 1) := dl_5_ok (1085, (.aload_n 2, 1)) (List.mem_of_getElem? (i := 57) rfl)
set_option maxRecDepth 100000 in
theorem dL_law_1086 : decode code 1086 = .ok (.invokevirtual 126, 3) := dl_5_ok (1086, (.invokevirtual 126, 3)) (List.mem_of_getElem? (i := 58) rfl)
set_option maxRecDepth 100000 in
theorem dL_law_1089 : decode code 1089 = .ok (.pop, 1) := dl_5_ok (1089, (.pop, 1)) (List.mem_of_getElem? (i := 59) rfl)
set_option maxRecDepth 100000 in
theorem dL_law_1090 : decode code 1090 = .ok (.goto 1570, 3) := dl_5_ok (1090, (.goto 1570, 3)) (List.mem_of_getElem? (i := 60) rfl)
set_option maxRecDepth 100000 in
theorem dL_law_1093 : decode code 1093 = .ok (.aload_n 1, 1) := dl_5_ok (1093, (.aload_n 1, 1)) (List.mem_of_getElem? (i := 61) rfl)
set_option maxRecDepth 100000 in
theorem dL_law_1094 : decode code 1094 = .ok (.aload_n 0, 1) := dl_5_ok (1094, (.aload_n 0, 1)) (List.mem_of_getElem? (i := 62) rfl)
set_option maxRecDepth 100000 in
theorem dL_law_1095 : decode code 1095 = .ok (.iload_n 3, 1) := dl_5_ok (1095, (.iload_n 3, 1)) (List.mem_of_getElem? (i := 63) rfl)
set_option maxRecDepth 100000 in
theorem dL_law_1096 : decode code 1096 = .ok (.iconst 1, 1) := dl_5_ok (1096, (.iconst 1, 1)) (List.mem_of_getElem? (i := 64) rfl)
set_option maxRecDepth 100000 in
theorem dL_law_1097 : decode code 1097 = .ok (.iadd, 1) := dl_5_ok (1097, (.iadd, 1)) (List.mem_of_getElem? (i := 65) rfl)
set_option maxRecDepth 100000 in
theorem dL_law_1098 : decode code 1098 = .ok (.iaload, 1) := dl_5_ok (1098, (.iaload, 1)) (List.mem_of_getElem? (i := 66) rfl)
set_option maxRecDepth 100000 in
theorem dL_law_1099 : decode code 1099 = .ok (.invokevirtual 127, 3) := dl_5_ok (1099, (.invokevirtual 127, 3)) (List.mem_of_getElem? (i := 67) rfl)
set_option maxRecDepth 100000 in
theorem dL_law_1102 : decode code 1102 = .ok (.pop, 1) := dl_5_ok (1102, (.pop, 1)) (List.mem_of_getElem? (i := 68) rfl)
set_option maxRecDepth 100000 in
theorem dL_law_1103 : decode code 1103 = .ok (.aload_n 2, 1) := dl_5_ok (1103, (.aload_n 2, 1)) (List.mem_of_getElem? (i := 69) rfl)
set_option maxRecDepth 100000 in
theorem dL_law_1104 : decode code 1104 = .ok (.aload_n 0, 1) := dl_5_ok (1104, (.aload_n 0, 1)) (List.mem_of_getElem? (i := 70) rfl)
set_option maxRecDepth 100000 in
theorem dL_law_1105 : decode code 1105 = .ok (.iload_n 3, 1) := dl_5_ok (1105, (.iload_n 3, 1)) (List.mem_of_getElem? (i := 71) rfl)
set_option maxRecDepth 100000 in
theorem dL_law_1106 : decode code 1106 = .ok (.iconst 1, 1) := dl_5_ok (1106, (.iconst 1, 1)) (List.mem_of_getElem? (i := 72) rfl)
set_option maxRecDepth 100000 in
theorem dL_law_1107 : decode code 1107 = .ok (.iadd, 1) := dl_5_ok (1107, (.iadd, 1)) (List.mem_of_getElem? (i := 73) rfl)
set_option maxRecDepth 100000 in
theorem dL_law_1108 : decode code 1108 = .ok (.iaload, 1) := dl_5_ok (1108, (.iaload, 1)) (List.mem_of_getElem? (i := 74) rfl)
set_option maxRecDepth 100000 in
theorem dL_law_1109 : decode code 1109 = .ok (.invokevirtual 130, 3) := dl_5_ok (1109, (.invokevirtual 130, 3)) (List.mem_of_getElem? (i := 75) rfl)
set_option maxRecDepth 100000 in
theorem dL_law_1112 : decode code 1112 = .ok (.pop, 1) := dl_5_ok (1112, (.pop, 1)) (List.mem_of_getElem? (i := 76) rfl)
set_option maxRecDepth 100000 in
theorem dL_law_1113 : decode code 1113 = .ok (.goto 1547, 3) := dl_5_ok (1113, (.goto 1547, 3)) (List.mem_of_getElem? (i := 77) rfl)
set_option maxRecDepth 100000 in
theorem dL_law_1116 : decode code 1116 = .ok (.aload_n 1, 1) := dl_5_ok (1116, (.aload_n 1, 1)) (List.mem_of_getElem? (i := 78) rfl)
set_option maxRecDepth 100000 in
theorem dL_law_1117 : decode code 1117 = .ok (.aload_n 0, 1) := dl_5_ok (1117, (.aload_n 0, 1)) (List.mem_of_getElem? (i := 79) rfl)
set_option maxRecDepth 100000 in
theorem dL_law_1118 : decode code 1118 = .ok (.iload_n 3, 1) := dl_5_ok (1118, (.iload_n 3, 1)) (List.mem_of_getElem? (i := 80) rfl)
set_option maxRecDepth 100000 in
theorem dL_law_1119 : decode code 1119 = .ok (.iconst 1, 1) := dl_5_ok (1119, (.iconst 1, 1)) (List.mem_of_getElem? (i := 81) rfl)
set_option maxRecDepth 100000 in
theorem dL_law_1120 : decode code 1120 = .ok (.iadd, 1) := dl_5_ok (1120, (.iadd, 1)) (List.mem_of_getElem? (i := 82) rfl)
set_option maxRecDepth 100000 in
theorem dL_law_1121 : decode code 1121 = .ok (.iaload, 1) := dl_5_ok (1121, (.iaload, 1)) (List.mem_of_getElem? (i := 83) rfl)
set_option maxRecDepth 100000 in
theorem dL_law_1122 : decode code 1122 = .ok (.aload_n 0, 1) := dl_5_ok (1122, (.aload_n 0, 1)) (List.mem_of_getElem? (i := 84) rfl)
set_option maxRecDepth 100000 in
theorem dL_law_1123 : decode code 1123 = .ok (.iload_n 3, 1) := dl_5_ok (1123, (.iload_n 3, 1)) (List.mem_of_getElem? (i := 85) rfl)
set_option maxRecDepth 100000 in
theorem dL_law_1124 : decode code 1124 = .ok (.iconst 2, 1) := dl_5_ok (1124, (.iconst 2, 1)) (List.mem_of_getElem? (i := 86) rfl)
set_option maxRecDepth 100000 in
theorem dL_law_1125 : decode code 1125 = .ok (.iadd, 1) := dl_5_ok (1125, (.iadd, 1)) (List.mem_of_getElem? (i := 87) rfl)
set_option maxRecDepth 100000 in
theorem dL_law_1126 : decode code 1126 = .ok (.iaload, 1) := dl_5_ok (1126, (.iaload, 1)) (List.mem_of_getElem? (i := 88) rfl)
set_option maxRecDepth 100000 in
theorem dL_law_1127 : decode code 1127 = .ok (.invokevirtual 131, 3) := dl_5_ok (1127, (.invokevirtual 131, 3)) (List.mem_of_getElem? (i := 89) rfl)
set_option maxRecDepth 100000 in
theorem dL_law_1130 : decode code 1130 = .ok (.pop, 1) := dl_5_ok (1130, (.pop, 1)) (List.mem_of_getElem? (i := 90) rfl)
set_option maxRecDepth 100000 in
theorem dL_law_1131 : decode code 1131 = .ok (.aload_n 2, 1) := dl_5_ok (1131, (.aload_n 2, 1)) (List.mem_of_getElem? (i := 91) rfl)
set_option maxRecDepth 100000 in
theorem dL_law_1132 : decode code 1132 = .ok (.aload_n 0, 1) := dl_5_ok (1132, (.aload_n 0, 1)) (List.mem_of_getElem? (i := 92) rfl)
set_option maxRecDepth 100000 in
theorem dL_law_1133 : decode code 1133 = .ok (.iload_n 3, 1) := dl_5_ok (1133, (.iload_n 3, 1)) (List.mem_of_getElem? (i := 93) rfl)
set_option maxRecDepth 100000 in
theorem dL_law_1134 : decode code 1134 = .ok (.iconst 1, 1) := dl_5_ok (1134, (.iconst 1, 1)) (List.mem_of_getElem? (i := 94) rfl)
set_option maxRecDepth 100000 in
theorem dL_law_1135 : decode code 1135 = .ok (.iadd, 1) := dl_5_ok (1135, (.iadd, 1)) (List.mem_of_getElem? (i := 95) rfl)
set_option maxRecDepth 100000 in
theorem dL_law_1136 : decode code 1136 = .ok (.iaload, 1) := dl_5_ok (1136, (.iaload, 1)) (List.mem_of_getElem? (i := 96) rfl)
set_option maxRecDepth 100000 in
theorem dL_law_1137 : decode code 1137 = .ok (.aload_n 0, 1) := dl_5_ok (1137, (.aload_n 0, 1)) (List.mem_of_getElem? (i := 97) rfl)
set_option maxRecDepth 100000 in
theorem dL_law_1138 : decode code 1138 = .ok (.iload_n 3, 1) := dl_5_ok (1138, (.iload_n 3, 1)) (List.mem_of_getElem? (i := 98) rfl)
set_option maxRecDepth 100000 in
theorem dL_law_1139 : decode code 1139 = .ok (.iconst 2, 1) := dl_5_ok (1139, (.iconst 2, 1)) (List.mem_of_getElem? (i := 99) rfl)
