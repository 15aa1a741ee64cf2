theorem d_law_713 : decode code 713 = .ok (.invokevirtual 95, 3) := by decide +kernel
theorem d_law_716 : decode code 716 = .ok (.aload_n 2, 1) := by decide +kernel
theorem d_law_717 : decode code 717 = .ok (.aload_n 0, 1) := by decide +kernel
theorem d_law_718 : decode code 718 = .ok (.iload 4, 2) := by decide +kernel
theorem d_law_720 : decode code 720 = .ok (.iconst 1, 1) := by decide +kernel
theorem d_law_721 : decode code 721 = .ok (.iadd, 1) := by decide +kernel
theorem d_law_722 : decode code 722 = .ok (.iaload, 1) := by decide +kernel
theorem d_law_723 : decode code 723 = .ok (.invokevirtual 99, 3) := by decide +kernel
theorem d_law_726 : decode code 726 = .ok (.if_icmp .eq 30, 3) := by decide +kernel
theorem d_law_729 : decode code 729 = .ok (.iconst 0, 1) := by decide +kernel
theorem d_law_730 : decode code 730 = .ok (.ireturn, 1) := by decide +kernel
theorem d_law_731 : decode code 731 = .ok (.aload_n 1, 1) := by decide +kernel
theorem d_law_732 : decode code 732 = .ok (.aload_n 0, 1) := by decide +kernel
theorem d_law_733 : decode code 733 = .ok (.iload 4, 2) := by decide +kernel
theorem d_law_735 : decode code 735 = .ok (.iconst 1, 1) := by decide +kernel
theorem d_law_736 : decode code 736 = .ok (.iadd, 1) := by decide +kernel
theorem d_law_737 : decode code 737 = .ok (.iaload, 1) := by decide +kernel
theorem d_law_738 : decode code 738 = .ok (.invokevirtual 100, 3) := by decide +kernel
theorem d_law_741 : decode code 741 = .ok (.aload_n 2, 1) := by decide +kernel
theorem d_law_742 : decode code 742 = .ok (.aload_n 0, 1) := by decide +kernel
theorem d_law_743 : decode code 743 = .ok (.iload 4, 2) := by decide +kernel
theorem d_law_745 : decode code 745 = .ok (.iconst 1, 1) := by decide +kernel
theorem d_law_746 : decode code 746 = .ok (.iadd, 1) := by decide +kernel
theorem d_law_747 : decode code 747 = .ok (.iaload, 1) := by decide +kernel
theorem d_law_748 : decode code 748 = .ok (.invokevirtual 103, 3) := by decide +kernel
theorem d_law_751 : decode code 751 = .ok (.if_icmp .eq 5, 3) := by decide +kernel
theorem d_law_754 : decode code 754 = .ok (.iconst 0, 1) := by decide +kernel
theorem d_law_755 : decode code 755 = .ok (.ireturn, 1) := by decide +kernel
theorem d_law_756 : decode code 756 = .ok (.iinc 4 4, 3) := by decide +kernel
theorem d_law_759 : decode code 759 = .ok (.goto (-736), 3) := by decide +kernel
theorem d_law_762 : decode code 762 = .ok (.iconst 1, 1) := by decide +kernel
theorem d_law_763 : decode code 763 = .ok (.ireturn, 1) := by decide +kernel
