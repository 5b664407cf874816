theorem d_Lw_law_643 : decode b_Lw_law 643 = .ok (.aload_n 0, 1) := by decide +kernel
theorem d_Lw_law_644 : decode b_Lw_law 644 = .ok (.iload 4, 2) := by decide +kernel
theorem d_Lw_law_646 : decode b_Lw_law 646 = .ok (.iconst 1, 1) := by decide +kernel
theorem d_Lw_law_647 : decode b_Lw_law 647 = .ok (.iadd, 1) := by decide +kernel
theorem d_Lw_law_648 : decode b_Lw_law 648 = .ok (.iaload, 1) := by decide +kernel
theorem d_Lw_law_649 : decode b_Lw_law 649 = .ok (.aload_n 3, 1) := by decide +kernel
theorem d_Lw_law_650 : decode b_Lw_law 650 = .ok (.invokestatic 109, 3) := by decide +kernel
theorem d_Lw_law_653 : decode b_Lw_law 653 = .ok (.istore 5, 2) := by decide +kernel
theorem d_Lw_law_655 : decode b_Lw_law 655 = .ok (.aload_n 2, 1) := by decide +kernel
theorem d_Lw_law_656 : decode b_Lw_law 656 = .ok (.aload_n 0, 1) := by decide +kernel
theorem d_Lw_law_657 : decode b_Lw_law 657 = .ok (.iload 4, 2) := by decide +kernel
theorem d_Lw_law_659 : decode b_Lw_law 659 = .ok (.iconst 1, 1) := by decide +kernel
theorem d_Lw_law_660 : decode b_Lw_law 660 = .ok (.iadd, 1) := by decide +kernel
theorem d_Lw_law_661 : decode b_Lw_law 661 = .ok (.iaload, 1) := by decide +kernel
theorem d_Lw_law_662 : decode b_Lw_law 662 = .ok (.invokevirtual 111, 3) := by decide +kernel
theorem d_Lw_law_665 : decode b_Lw_law 665 = .ok (.istore 6, 2) := by decide +kernel
theorem d_Lw_law_667 : decode b_Lw_law 667 = .ok (.aload_n 2, 1) := by decide +kernel
theorem d_Lw_law_668 : decode b_Lw_law 668 = .ok (.invokevirtual 64, 3) := by decide +kernel
theorem d_Lw_law_671 : decode b_Lw_law 671 = .ok (.iload 5, 2) := by decide +kernel
theorem d_Lw_law_673 : decode b_Lw_law 673 = .ok (.if_icmp .eq 5, 3) := by decide +kernel
theorem d_Lw_law_676 : decode b_Lw_law 676 = .ok (.iconst 0, 1) := by decide +kernel
theorem d_Lw_law_677 : decode b_Lw_law 677 = .ok (.ireturn, 1) := by decide +kernel
theorem d_Lw_law_678 : decode b_Lw_law 678 = .ok (.iload 5, 2) := by decide +kernel
theorem d_Lw_law_680 : decode b_Lw_law 680 = .ok (.ifCond .ne 15, 3) := by decide +kernel
theorem d_Lw_law_683 : decode b_Lw_law 683 = .ok (.aload_n 3, 1) := by decide +kernel
theorem d_Lw_law_684 : decode b_Lw_law 684 = .ok (.iconst 0, 1) := by decide +kernel
theorem d_Lw_law_685 : decode b_Lw_law 685 = .ok (.laload, 1) := by decide +kernel
theorem d_Lw_law_686 : decode b_Lw_law 686 = .ok (.iload 6, 2) := by decide +kernel
theorem d_Lw_law_688 : decode b_Lw_law 688 = .ok (.i2l, 1) := by decide +kernel
theorem d_Lw_law_689 : decode b_Lw_law 689 = .ok (.lcmp, 1) := by decide +kernel
theorem d_Lw_law_690 : decode b_Lw_law 690 = .ok (.ifCond .eq 5, 3) := by decide +kernel
theorem d_Lw_law_693 : decode b_Lw_law 693 = .ok (.iconst 0, 1) := by decide +kernel
theorem d_Lw_law_694 : decode b_Lw_law 694 = .ok (.ireturn, 1) := by decide +kernel
theorem d_Lw_law_695 : decode b_Lw_law 695 = .ok (.goto 59, 3) := by decide +kernel
theorem d_Lw_law_698 : decode b_Lw_law 698 = .ok (.aload_n 1, 1) := by decide +kernel
theorem d_Lw_law_699 : decode b_Lw_law 699 = .ok (.aload_n 0, 1) := by decide +kernel
theorem d_Lw_law_700 : decode b_Lw_law 700 = .ok (.iload 4, 2) := by decide +kernel
theorem d_Lw_law_702 : decode b_Lw_law 702 = .ok (.iconst 1, 1) := by decide +kernel
theorem d_Lw_law_703 : decode b_Lw_law 703 = .ok (.iadd, 1) := by decide +kernel
theorem d_Lw_law_704 : decode b_Lw_law 704 = .ok (.iaload, 1) := by decide +kernel
theorem d_Lw_law_705 : decode b_Lw_law 705 = .ok (.aload_n 3, 1) := by decide +kernel
theorem d_Lw_law_706 : decode b_Lw_law 706 = .ok (.invokestatic 112, 3) := by decide +kernel
theorem d_Lw_law_709 : decode b_Lw_law 709 = .ok (.istore 5, 2) := by decide +kernel
theorem d_Lw_law_711 : decode b_Lw_law 711 = .ok (.aload_n 2, 1) := by decide +kernel
theorem d_Lw_law_712 : decode b_Lw_law 712 = .ok (.aload_n 0, 1) := by decide +kernel
theorem d_Lw_law_713 : decode b_Lw_law 713 = .ok (.iload 4, 2) := by decide +kernel
theorem d_Lw_law_715 : decode b_Lw_law 715 = .ok (.iconst 1, 1) := by decide +kernel
theorem d_Lw_law_716 : decode b_Lw_law 716 = .ok (.iadd, 1) := by decide +kernel
theorem d_Lw_law_717 : decode b_Lw_law 717 = .ok (.iaload, 1) := by decide +kernel
theorem d_Lw_law_718 : decode b_Lw_law 718 = .ok (.invokevirtual 114, 3) := by decide +kernel
theorem d_Lw_law_721 : decode b_Lw_law 721 = .ok (.istore 6, 2) := by decide +kernel
theorem d_Lw_law_723 : decode b_Lw_law 723 = .ok (.aload_n 2, 1) := by decide +kernel
theorem d_Lw_law_724 : decode b_Lw_law 724 = .ok (.invokevirtual 64, 3) := by decide +kernel
theorem d_Lw_law_727 : decode b_Lw_law 727 = .ok (.iload 5, 2) := by decide +kernel
theorem d_Lw_law_729 : decode b_Lw_law 729 = .ok (.if_icmp .eq 5, 3) := by decide +kernel
theorem d_Lw_law_732 : decode b_Lw_law 732 = .ok (.iconst 0, 1) := by decide +kernel
theorem d_Lw_law_733 : decode b_Lw_law 733 = .ok (.ireturn, 1) := by decide +kernel
theorem d_Lw_law_734 : decode b_Lw_law 734 = .ok (.iload 5, 2) := by decide +kernel
theorem d_Lw_law_736 : decode b_Lw_law 736 = .ok (.ifCond .ne 15, 3) := by decide +kernel
theorem d_Lw_law_739 : decode b_Lw_law 739 = .ok (.aload_n 3, 1) := by decide +kernel
