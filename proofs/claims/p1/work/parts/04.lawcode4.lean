theorem d_code_644 : decode code 644 = .ok (.iload_n 3, 1) := by decide +kernel
theorem d_code_645 : decode code 645 = .ok (.iconst 2, 1) := by decide +kernel
theorem d_code_646 : decode code 646 = .ok (.iadd, 1) := by decide +kernel
theorem d_code_647 : decode code 647 = .ok (.iaload, 1) := by decide +kernel
theorem d_code_648 : decode code 648 = .ok (.invokevirtual 109, 3) := by decide +kernel
theorem d_code_651 : decode code 651 = .ok (.if_icmp .eq 107, 3) := by decide +kernel
theorem d_code_656 : decode code 656 = .ok (.aload_n 1, 1) := by decide +kernel
theorem d_code_657 : decode code 657 = .ok (.aload_n 0, 1) := by decide +kernel
theorem d_code_658 : decode code 658 = .ok (.iload_n 3, 1) := by decide +kernel
theorem d_code_659 : decode code 659 = .ok (.iconst 1, 1) := by decide +kernel
theorem d_code_660 : decode code 660 = .ok (.iadd, 1) := by decide +kernel
theorem d_code_661 : decode code 661 = .ok (.iaload, 1) := by decide +kernel
theorem d_code_662 : decode code 662 = .ok (.aload_n 0, 1) := by decide +kernel
theorem d_code_663 : decode code 663 = .ok (.iload_n 3, 1) := by decide +kernel
theorem d_code_664 : decode code 664 = .ok (.iconst 2, 1) := by decide +kernel
theorem d_code_665 : decode code 665 = .ok (.iadd, 1) := by decide +kernel
theorem d_code_666 : decode code 666 = .ok (.iaload, 1) := by decide +kernel
theorem d_code_667 : decode code 667 = .ok (.invokevirtual 110, 3) := by decide +kernel
theorem d_code_670 : decode code 670 = .ok (.aload_n 2, 1) := by decide +kernel
theorem d_code_671 : decode code 671 = .ok (.aload_n 0, 1) := by decide +kernel
theorem d_code_672 : decode code 672 = .ok (.iload_n 3, 1) := by decide +kernel
theorem d_code_673 : decode code 673 = .ok (.iconst 1, 1) := by decide +kernel
theorem d_code_674 : decode code 674 = .ok (.iadd, 1) := by decide +kernel
theorem d_code_675 : decode code 675 = .ok (.iaload, 1) := by decide +kernel
theorem d_code_676 : decode code 676 = .ok (.aload_n 0, 1) := by decide +kernel
theorem d_code_677 : decode code 677 = .ok (.iload_n 3, 1) := by decide +kernel
theorem d_code_678 : decode code 678 = .ok (.iconst 2, 1) := by decide +kernel
theorem d_code_679 : decode code 679 = .ok (.iadd, 1) := by decide +kernel
theorem d_code_680 : decode code 680 = .ok (.iaload, 1) := by decide +kernel
theorem d_code_681 : decode code 681 = .ok (.invokevirtual 113, 3) := by decide +kernel
theorem d_code_684 : decode code 684 = .ok (.if_icmp .eq 74, 3) := by decide +kernel
theorem d_code_689 : decode code 689 = .ok (.aload_n 1, 1) := by decide +kernel
theorem d_code_690 : decode code 690 = .ok (.aload_n 0, 1) := by decide +kernel
theorem d_code_691 : decode code 691 = .ok (.iload_n 3, 1) := by decide +kernel
theorem d_code_692 : decode code 692 = .ok (.iconst 1, 1) := by decide +kernel
theorem d_code_693 : decode code 693 = .ok (.iadd, 1) := by decide +kernel
theorem d_code_694 : decode code 694 = .ok (.iaload, 1) := by decide +kernel
theorem d_code_695 : decode code 695 = .ok (.aload_n 0, 1) := by decide +kernel
theorem d_code_696 : decode code 696 = .ok (.iload_n 3, 1) := by decide +kernel
theorem d_code_697 : decode code 697 = .ok (.iconst 2, 1) := by decide +kernel
theorem d_code_698 : decode code 698 = .ok (.iadd, 1) := by decide +kernel
theorem d_code_699 : decode code 699 = .ok (.iaload, 1) := by decide +kernel
theorem d_code_700 : decode code 700 = .ok (.invokevirtual 114, 3) := by decide +kernel
theorem d_code_703 : decode code 703 = .ok (.aload_n 2, 1) := by decide +kernel
theorem d_code_704 : decode code 704 = .ok (.aload_n 0, 1) := by decide +kernel
theorem d_code_705 : decode code 705 = .ok (.iload_n 3, 1) := by decide +kernel
theorem d_code_706 : decode code 706 = .ok (.iconst 1, 1) := by decide +kernel
theorem d_code_707 : decode code 707 = .ok (.iadd, 1) := by decide +kernel
theorem d_code_708 : decode code 708 = .ok (.iaload, 1) := by decide +kernel
theorem d_code_709 : decode code 709 = .ok (.aload_n 0, 1) := by decide +kernel
theorem d_code_710 : decode code 710 = .ok (.iload_n 3, 1) := by decide +kernel
theorem d_code_711 : decode code 711 = .ok (.iconst 2, 1) := by decide +kernel
theorem d_code_712 : decode code 712 = .ok (.iadd, 1) := by decide +kernel
theorem d_code_713 : decode code 713 = .ok (.iaload, 1) := by decide +kernel
theorem d_code_714 : decode code 714 = .ok (.invokevirtual 117, 3) := by decide +kernel
theorem d_code_717 : decode code 717 = .ok (.if_icmp .eq 41, 3) := by decide +kernel
theorem d_code_722 : decode code 722 = .ok (.aload_n 1, 1) := by decide +kernel
theorem d_code_723 : decode code 723 = .ok (.invokevirtual 118, 3) := by decide +kernel
theorem d_code_726 : decode code 726 = .ok (.aload_n 2, 1) := by decide +kernel
theorem d_code_727 : decode code 727 = .ok (.invokevirtual 121, 3) := by decide +kernel
theorem d_code_730 : decode code 730 = .ok (.if_icmp .eq 28, 3) := by decide +kernel
theorem d_code_735 : decode code 735 = .ok (.aload_n 1, 1) := by decide +kernel
theorem d_code_736 : decode code 736 = .ok (.aload_n 0, 1) := by decide +kernel
theorem d_code_737 : decode code 737 = .ok (.iload_n 3, 1) := by decide +kernel
theorem d_code_738 : decode code 738 = .ok (.iconst 1, 1) := by decide +kernel
theorem d_code_739 : decode code 739 = .ok (.iadd, 1) := by decide +kernel
theorem d_code_740 : decode code 740 = .ok (.iaload, 1) := by decide +kernel
theorem d_code_741 : decode code 741 = .ok (.invokevirtual 122, 3) := by decide +kernel
theorem d_code_744 : decode code 744 = .ok (.aload_n 2, 1) := by decide +kernel
theorem d_code_745 : decode code 745 = .ok (.aload_n 0, 1) := by decide +kernel
theorem d_code_746 : decode code 746 = .ok (.iload_n 3, 1) := by decide +kernel
theorem d_code_747 : decode code 747 = .ok (.iconst 1, 1) := by decide +kernel
theorem d_code_748 : decode code 748 = .ok (.iadd, 1) := by decide +kernel
theorem d_code_749 : decode code 749 = .ok (.iaload, 1) := by decide +kernel
theorem d_code_750 : decode code 750 = .ok (.invokevirtual 125, 3) := by decide +kernel
theorem d_code_753 : decode code 753 = .ok (.if_icmp .eq 5, 3) := by decide +kernel
theorem d_code_26 : decode code 26 = .ok (.aload_n 0, 1) := by decide +kernel
theorem d_code_27 : decode code 27 = .ok (.iload_n 3, 1) := by decide +kernel
theorem d_code_28 : decode code 28 = .ok (.iaload, 1) := by decide +kernel
theorem d_code_29 : decode code 29 = .ok (.bipush 31, 2) := by decide +kernel
