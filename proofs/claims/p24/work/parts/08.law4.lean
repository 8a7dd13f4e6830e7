theorem dL_law_673 : decode cL_law 673 = .ok (.aload_n 2, 1) := by decide +kernel
theorem dL_law_674 : decode cL_law 674 = .ok (.iconst 3, 1) := by decide +kernel
theorem dL_law_675 : decode cL_law 675 = .ok (.dup2, 1) := by decide +kernel
theorem dL_law_676 : decode cL_law 676 = .ok (.iaload, 1) := by decide +kernel
theorem dL_law_677 : decode cL_law 677 = .ok (.iload 19, 2) := by decide +kernel
theorem dL_law_679 : decode cL_law 679 = .ok (.iadd, 1) := by decide +kernel
theorem dL_law_680 : decode cL_law 680 = .ok (.iastore, 1) := by decide +kernel
theorem dL_law_681 : decode cL_law 681 = .ok (.aload_n 2, 1) := by decide +kernel
theorem dL_law_682 : decode cL_law 682 = .ok (.aload_n 3, 1) := by decide +kernel
theorem dL_law_683 : decode cL_law 683 = .ok (.aload 4, 2) := by decide +kernel
theorem dL_law_685 : decode cL_law 685 = .ok (.aload 5, 2) := by decide +kernel
theorem dL_law_687 : decode cL_law 687 = .ok (.aload 6, 2) := by decide +kernel
theorem dL_law_689 : decode cL_law 689 = .ok (.aload 7, 2) := by decide +kernel
theorem dL_law_691 : decode cL_law 691 = .ok (.aload 8, 2) := by decide +kernel
theorem dL_law_693 : decode cL_law 693 = .ok (.aload 9, 2) := by decide +kernel
theorem dL_law_695 : decode cL_law 695 = .ok (.aload 10, 2) := by decide +kernel
theorem dL_law_697 : decode cL_law 697 = .ok (.aload 11, 2) := by decide +kernel
theorem dL_law_699 : decode cL_law 699 = .ok (.aload 12, 2) := by decide +kernel
theorem dL_law_701 : decode cL_law 701 = .ok (.aload 13, 2) := by decide +kernel
theorem dL_law_703 : decode cL_law 703 = .ok (.iload 20, 2) := by decide +kernel
theorem dL_law_705 : decode cL_law 705 = .ok (.invokestatic 143, 3) := by decide +kernel
theorem dL_law_708 : decode cL_law 708 = .ok (.aload_n 2, 1) := by decide +kernel
theorem dL_law_709 : decode cL_law 709 = .ok (.iconst 3, 1) := by decide +kernel
theorem dL_law_710 : decode cL_law 710 = .ok (.iaload, 1) := by decide +kernel
theorem dL_law_711 : decode cL_law 711 = .ok (.ifCond .ne 35, 3) := by decide +kernel
theorem dL_law_714 : decode cL_law 714 = .ok (.aload_n 2, 1) := by decide +kernel
theorem dL_law_715 : decode cL_law 715 = .ok (.iconst 4, 1) := by decide +kernel
theorem dL_law_716 : decode cL_law 716 = .ok (.iaload, 1) := by decide +kernel
theorem dL_law_717 : decode cL_law 717 = .ok (.ifCond .ne 29, 3) := by decide +kernel
theorem dL_law_720 : decode cL_law 720 = .ok (.aload_n 2, 1) := by decide +kernel
theorem dL_law_721 : decode cL_law 721 = .ok (.aload_n 3, 1) := by decide +kernel
theorem dL_law_722 : decode cL_law 722 = .ok (.aload 4, 2) := by decide +kernel
theorem dL_law_724 : decode cL_law 724 = .ok (.aload 5, 2) := by decide +kernel
theorem dL_law_726 : decode cL_law 726 = .ok (.aload 6, 2) := by decide +kernel
theorem dL_law_728 : decode cL_law 728 = .ok (.aload 7, 2) := by decide +kernel
theorem dL_law_730 : decode cL_law 730 = .ok (.aload 8, 2) := by decide +kernel
theorem dL_law_732 : decode cL_law 732 = .ok (.aload 9, 2) := by decide +kernel
theorem dL_law_734 : decode cL_law 734 = .ok (.aload 10, 2) := by decide +kernel
theorem dL_law_736 : decode cL_law 736 = .ok (.aload 11, 2) := by decide +kernel
theorem dL_law_738 : decode cL_law 738 = .ok (.aload 12, 2) := by decide +kernel
theorem dL_law_740 : decode cL_law 740 = .ok (.aload 13, 2) := by decide +kernel
theorem dL_law_742 : decode cL_law 742 = .ok (.iconst 0, 1) := by decide +kernel
theorem dL_law_743 : decode cL_law 743 = .ok (.invokestatic 143, 3) := by decide +kernel
theorem dL_law_746 : decode cL_law 746 = .ok (.iload 14, 2) := by decide +kernel
theorem dL_law_748 : decode cL_law 748 = .ok (.ifCond .eq 26, 3) := by decide +kernel
theorem dL_law_751 : decode cL_law 751 = .ok (.aload_n 1, 1) := by decide +kernel
theorem dL_law_752 : decode cL_law 752 = .ok (.aload_n 2, 1) := by decide +kernel
theorem dL_law_753 : decode cL_law 753 = .ok (.aload_n 3, 1) := by decide +kernel
theorem dL_law_754 : decode cL_law 754 = .ok (.aload 6, 2) := by decide +kernel
theorem dL_law_756 : decode cL_law 756 = .ok (.aload 7, 2) := by decide +kernel
theorem dL_law_758 : decode cL_law 758 = .ok (.aload 8, 2) := by decide +kernel
theorem dL_law_760 : decode cL_law 760 = .ok (.aload 9, 2) := by decide +kernel
theorem dL_law_762 : decode cL_law 762 = .ok (.iload 18, 2) := by decide +kernel
theorem dL_law_764 : decode cL_law 764 = .ok (.invokestatic 130, 3) := by decide +kernel
theorem dL_law_767 : decode cL_law 767 = .ok (.ifCond .eq 7, 3) := by decide +kernel
theorem dL_law_770 : decode cL_law 770 = .ok (.iconst 1, 1) := by decide +kernel
theorem dL_law_771 : decode cL_law 771 = .ok (.goto 4, 3) := by decide +kernel
theorem dL_law_774 : decode cL_law 774 = .ok (.iconst 0, 1) := by decide +kernel
theorem dL_law_775 : decode cL_law 775 = .ok (.istore 14, 2) := by decide +kernel
theorem dL_law_777 : decode cL_law 777 = .ok (.iinc 15 1, 3) := by decide +kernel
theorem dL_law_780 : decode cL_law 780 = .ok (.goto (-662), 3) := by decide +kernel
theorem dL_law_783 : decode cL_law 783 = .ok (.iload 14, 2) := by decide +kernel
theorem dL_law_785 : decode cL_law 785 = .ok (.ireturn, 1) := by decide +kernel
