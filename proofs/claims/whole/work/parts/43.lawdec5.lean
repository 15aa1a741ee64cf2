theorem d_law_601 : decode code 601 = .ok (.aload_n 3, 1) := by decide +kernel
theorem d_law_602 : decode code 602 = .ok (.invokestatic 89, 3) := by decide +kernel
theorem d_law_605 : decode code 605 = .ok (.istore 5, 2) := by decide +kernel
theorem d_law_607 : decode code 607 = .ok (.aload_n 2, 1) := by decide +kernel
theorem d_law_608 : decode code 608 = .ok (.aload_n 0, 1) := by decide +kernel
theorem d_law_609 : decode code 609 = .ok (.iload 4, 2) := by decide +kernel
theorem d_law_611 : decode code 611 = .ok (.iconst 1, 1) := by decide +kernel
theorem d_law_612 : decode code 612 = .ok (.iadd, 1) := by decide +kernel
theorem d_law_613 : decode code 613 = .ok (.iaload, 1) := by decide +kernel
theorem d_law_614 : decode code 614 = .ok (.invokevirtual 91, 3) := by decide +kernel
theorem d_law_617 : decode code 617 = .ok (.istore 6, 2) := by decide +kernel
theorem d_law_619 : decode code 619 = .ok (.aload_n 2, 1) := by decide +kernel
theorem d_law_620 : decode code 620 = .ok (.invokevirtual 57, 3) := by decide +kernel
theorem d_law_623 : decode code 623 = .ok (.iload 5, 2) := by decide +kernel
theorem d_law_625 : decode code 625 = .ok (.if_icmp .eq 5, 3) := by decide +kernel
theorem d_law_628 : decode code 628 = .ok (.iconst 0, 1) := by decide +kernel
theorem d_law_629 : decode code 629 = .ok (.ireturn, 1) := by decide +kernel
theorem d_law_630 : decode code 630 = .ok (.iload 5, 2) := by decide +kernel
theorem d_law_632 : decode code 632 = .ok (.ifCond .ne 15, 3) := by decide +kernel
theorem d_law_635 : decode code 635 = .ok (.aload_n 3, 1) := by decide +kernel
theorem d_law_636 : decode code 636 = .ok (.iconst 0, 1) := by decide +kernel
theorem d_law_637 : decode code 637 = .ok (.laload, 1) := by decide +kernel
theorem d_law_638 : decode code 638 = .ok (.iload 6, 2) := by decide +kernel
theorem d_law_640 : decode code 640 = .ok (.i2l, 1) := by decide +kernel
theorem d_law_641 : decode code 641 = .ok (.lcmp, 1) := by decide +kernel
theorem d_law_642 : decode code 642 = .ok (.ifCond .eq 5, 3) := by decide +kernel
theorem d_law_645 : decode code 645 = .ok (.iconst 0, 1) := by decide +kernel
theorem d_law_646 : decode code 646 = .ok (.ireturn, 1) := by decide +kernel
theorem d_law_647 : decode code 647 = .ok (.goto 109, 3) := by decide +kernel
theorem d_law_650 : decode code 650 = .ok (.aload_n 1, 1) := by decide +kernel
theorem d_law_651 : decode code 651 = .ok (.aload_n 0, 1) := by decide +kernel
theorem d_law_652 : decode code 652 = .ok (.iload 4, 2) := by decide +kernel
theorem d_law_654 : decode code 654 = .ok (.iconst 1, 1) := by decide +kernel
theorem d_law_655 : decode code 655 = .ok (.iadd, 1) := by decide +kernel
theorem d_law_656 : decode code 656 = .ok (.iaload, 1) := by decide +kernel
theorem d_law_657 : decode code 657 = .ok (.aload_n 3, 1) := by decide +kernel
theorem d_law_658 : decode code 658 = .ok (.invokestatic 92, 3) := by decide +kernel
theorem d_law_661 : decode code 661 = .ok (.istore 5, 2) := by decide +kernel
theorem d_law_663 : decode code 663 = .ok (.aload_n 2, 1) := by decide +kernel
theorem d_law_664 : decode code 664 = .ok (.aload_n 0, 1) := by decide +kernel
theorem d_law_665 : decode code 665 = .ok (.iload 4, 2) := by decide +kernel
theorem d_law_667 : decode code 667 = .ok (.iconst 1, 1) := by decide +kernel
theorem d_law_668 : decode code 668 = .ok (.iadd, 1) := by decide +kernel
theorem d_law_669 : decode code 669 = .ok (.iaload, 1) := by decide +kernel
theorem d_law_670 : decode code 670 = .ok (.invokevirtual 94, 3) := by decide +kernel
theorem d_law_673 : decode code 673 = .ok (.istore 6, 2) := by decide +kernel
theorem d_law_675 : decode code 675 = .ok (.aload_n 2, 1) := by decide +kernel
theorem d_law_676 : decode code 676 = .ok (.invokevirtual 57, 3) := by decide +kernel
theorem d_law_679 : decode code 679 = .ok (.iload 5, 2) := by decide +kernel
theorem d_law_681 : decode code 681 = .ok (.if_icmp .eq 5, 3) := by decide +kernel
theorem d_law_684 : decode code 684 = .ok (.iconst 0, 1) := by decide +kernel
theorem d_law_685 : decode code 685 = .ok (.ireturn, 1) := by decide +kernel
theorem d_law_686 : decode code 686 = .ok (.iload 5, 2) := by decide +kernel
theorem d_law_688 : decode code 688 = .ok (.ifCond .ne 15, 3) := by decide +kernel
theorem d_law_691 : decode code 691 = .ok (.aload_n 3, 1) := by decide +kernel
theorem d_law_692 : decode code 692 = .ok (.iconst 0, 1) := by decide +kernel
theorem d_law_693 : decode code 693 = .ok (.laload, 1) := by decide +kernel
theorem d_law_694 : decode code 694 = .ok (.iload 6, 2) := by decide +kernel
theorem d_law_696 : decode code 696 = .ok (.i2l, 1) := by decide +kernel
theorem d_law_697 : decode code 697 = .ok (.lcmp, 1) := by decide +kernel
theorem d_law_698 : decode code 698 = .ok (.ifCond .eq 5, 3) := by decide +kernel
theorem d_law_701 : decode code 701 = .ok (.iconst 0, 1) := by decide +kernel
theorem d_law_702 : decode code 702 = .ok (.ireturn, 1) := by decide +kernel
theorem d_law_703 : decode code 703 = .ok (.goto 53, 3) := by decide +kernel
theorem d_law_706 : decode code 706 = .ok (.aload_n 1, 1) := by decide +kernel
theorem d_law_707 : decode code 707 = .ok (.aload_n 0, 1) := by decide +kernel
theorem d_law_708 : decode code 708 = .ok (.iload 4, 2) := by decide +kernel
theorem d_law_710 : decode code 710 = .ok (.iconst 1, 1) := by decide +kernel
theorem d_law_711 : decode code 711 = .ok (.iadd, 1) := by decide +kernel
theorem d_law_712 : decode code 712 = .ok (.iaload, 1) := by decide +kernel
