/-! decode rows of the law -/
theorem d_Law_law_623 : decode c_Law_law 623 = .ok (.iadd, 1) := by decide +kernel
theorem d_Law_law_624 : decode c_Law_law 624 = .ok (.iaload, 1) := by decide +kernel
theorem d_Law_law_625 : decode c_Law_law 625 = .ok (.invokevirtual 87, 3) := by decide +kernel
theorem d_Law_law_628 : decode c_Law_law 628 = .ok (.if_icmp .eq 586, 3) := by decide +kernel
theorem d_Law_law_631 : decode c_Law_law 631 = .ok (.iconst 0, 1) := by decide +kernel
theorem d_Law_law_632 : decode c_Law_law 632 = .ok (.ireturn, 1) := by decide +kernel
theorem d_Law_law_633 : decode c_Law_law 633 = .ok (.aload_n 1, 1) := by decide +kernel
theorem d_Law_law_634 : decode c_Law_law 634 = .ok (.aload_n 0, 1) := by decide +kernel
theorem d_Law_law_635 : decode c_Law_law 635 = .ok (.iload 4, 2) := by decide +kernel
theorem d_Law_law_637 : decode c_Law_law 637 = .ok (.iconst 1, 1) := by decide +kernel
theorem d_Law_law_638 : decode c_Law_law 638 = .ok (.iadd, 1) := by decide +kernel
theorem d_Law_law_639 : decode c_Law_law 639 = .ok (.iaload, 1) := by decide +kernel
theorem d_Law_law_640 : decode c_Law_law 640 = .ok (.invokevirtual 88, 3) := by decide +kernel
theorem d_Law_law_643 : decode c_Law_law 643 = .ok (.aload_n 2, 1) := by decide +kernel
theorem d_Law_law_644 : decode c_Law_law 644 = .ok (.aload_n 0, 1) := by decide +kernel
theorem d_Law_law_645 : decode c_Law_law 645 = .ok (.iload 4, 2) := by decide +kernel
theorem d_Law_law_647 : decode c_Law_law 647 = .ok (.iconst 1, 1) := by decide +kernel
theorem d_Law_law_648 : decode c_Law_law 648 = .ok (.iadd, 1) := by decide +kernel
theorem d_Law_law_649 : decode c_Law_law 649 = .ok (.iaload, 1) := by decide +kernel
theorem d_Law_law_650 : decode c_Law_law 650 = .ok (.invokevirtual 91, 3) := by decide +kernel
theorem d_Law_law_653 : decode c_Law_law 653 = .ok (.if_icmp .eq 561, 3) := by decide +kernel
theorem d_Law_law_656 : decode c_Law_law 656 = .ok (.iconst 0, 1) := by decide +kernel
theorem d_Law_law_657 : decode c_Law_law 657 = .ok (.ireturn, 1) := by decide +kernel
theorem d_Law_law_658 : decode c_Law_law 658 = .ok (.aload_n 1, 1) := by decide +kernel
theorem d_Law_law_659 : decode c_Law_law 659 = .ok (.aload_n 0, 1) := by decide +kernel
theorem d_Law_law_660 : decode c_Law_law 660 = .ok (.iload 4, 2) := by decide +kernel
theorem d_Law_law_662 : decode c_Law_law 662 = .ok (.iconst 1, 1) := by decide +kernel
theorem d_Law_law_663 : decode c_Law_law 663 = .ok (.iadd, 1) := by decide +kernel
theorem d_Law_law_664 : decode c_Law_law 664 = .ok (.iaload, 1) := by decide +kernel
theorem d_Law_law_665 : decode c_Law_law 665 = .ok (.aload_n 3, 1) := by decide +kernel
theorem d_Law_law_666 : decode c_Law_law 666 = .ok (.invokestatic 92, 3) := by decide +kernel
theorem d_Law_law_669 : decode c_Law_law 669 = .ok (.istore 5, 2) := by decide +kernel
theorem d_Law_law_671 : decode c_Law_law 671 = .ok (.aload_n 2, 1) := by decide +kernel
theorem d_Law_law_672 : decode c_Law_law 672 = .ok (.aload_n 0, 1) := by decide +kernel
theorem d_Law_law_673 : decode c_Law_law 673 = .ok (.iload 4, 2) := by decide +kernel
theorem d_Law_law_675 : decode c_Law_law 675 = .ok (.iconst 1, 1) := by decide +kernel
theorem d_Law_law_676 : decode c_Law_law 676 = .ok (.iadd, 1) := by decide +kernel
theorem d_Law_law_677 : decode c_Law_law 677 = .ok (.iaload, 1) := by decide +kernel
theorem d_Law_law_678 : decode c_Law_law 678 = .ok (.invokevirtual 95, 3) := by decide +kernel
theorem d_Law_law_681 : decode c_Law_law 681 = .ok (.istore 6, 2) := by decide +kernel
theorem d_Law_law_683 : decode c_Law_law 683 = .ok (.aload_n 2, 1) := by decide +kernel
theorem d_Law_law_684 : decode c_Law_law 684 = .ok (.invokevirtual 57, 3) := by decide +kernel
theorem d_Law_law_687 : decode c_Law_law 687 = .ok (.iload 5, 2) := by decide +kernel
theorem d_Law_law_689 : decode c_Law_law 689 = .ok (.if_icmp .eq 5, 3) := by decide +kernel
theorem d_Law_law_692 : decode c_Law_law 692 = .ok (.iconst 0, 1) := by decide +kernel
theorem d_Law_law_693 : decode c_Law_law 693 = .ok (.ireturn, 1) := by decide +kernel
theorem d_Law_law_694 : decode c_Law_law 694 = .ok (.iload 5, 2) := by decide +kernel
theorem d_Law_law_696 : decode c_Law_law 696 = .ok (.ifCond .ne 15, 3) := by decide +kernel
theorem d_Law_law_699 : decode c_Law_law 699 = .ok (.aload_n 3, 1) := by decide +kernel
theorem d_Law_law_700 : decode c_Law_law 700 = .ok (.iconst 0, 1) := by decide +kernel
theorem d_Law_law_701 : decode c_Law_law 701 = .ok (.laload, 1) := by decide +kernel
theorem d_Law_law_702 : decode c_Law_law 702 = .ok (.iload 6, 2) := by decide +kernel
theorem d_Law_law_704 : decode c_Law_law 704 = .ok (.i2l, 1) := by decide +kernel
theorem d_Law_law_705 : decode c_Law_law 705 = .ok (.lcmp, 1) := by decide +kernel
theorem d_Law_law_706 : decode c_Law_law 706 = .ok (.ifCond .eq 5, 3) := by decide +kernel
theorem d_Law_law_709 : decode c_Law_law 709 = .ok (.iconst 0, 1) := by decide +kernel
theorem d_Law_law_710 : decode c_Law_law 710 = .ok (.ireturn, 1) := by decide +kernel
theorem d_Law_law_711 : decode c_Law_law 711 = .ok (.goto 503, 3) := by decide +kernel
theorem d_Law_law_714 : decode c_Law_law 714 = .ok (.aload_n 1, 1) := by decide +kernel
theorem d_Law_law_715 : decode c_Law_law 715 = .ok (.aload_n 0, 1) := by decide +kernel
theorem d_Law_law_716 : decode c_Law_law 716 = .ok (.iload 4, 2) := by decide +kernel
theorem d_Law_law_718 : decode c_Law_law 718 = .ok (.iconst 1, 1) := by decide +kernel
theorem d_Law_law_719 : decode c_Law_law 719 = .ok (.iadd, 1) := by decide +kernel
theorem d_Law_law_720 : decode c_Law_law 720 = .ok (.iaload, 1) := by decide +kernel
theorem d_Law_law_721 : decode c_Law_law 721 = .ok (.aload_n 0, 1) := by decide +kernel
theorem d_Law_law_722 : decode c_Law_law 722 = .ok (.iload 4, 2) := by decide +kernel
theorem d_Law_law_724 : decode c_Law_law 724 = .ok (.iconst 2, 1) := by decide +kernel
theorem d_Law_law_725 : decode c_Law_law 725 = .ok (.iadd, 1) := by decide +kernel
theorem d_Law_law_726 : decode c_Law_law 726 = .ok (.iaload, 1) := by decide +kernel
theorem d_Law_law_727 : decode c_Law_law 727 = .ok (.invokevirtual 96, 3) := by decide +kernel
theorem d_Law_law_730 : decode c_Law_law 730 = .ok (.aload_n 2, 1) := by decide +kernel
theorem d_Law_law_731 : decode c_Law_law 731 = .ok (.aload_n 0, 1) := by decide +kernel
theorem d_Law_law_732 : decode c_Law_law 732 = .ok (.iload 4, 2) := by decide +kernel
theorem d_Law_law_734 : decode c_Law_law 734 = .ok (.iconst 1, 1) := by decide +kernel
theorem d_Law_law_735 : decode c_Law_law 735 = .ok (.iadd, 1) := by decide +kernel
theorem d_Law_law_736 : decode c_Law_law 736 = .ok (.iaload, 1) := by decide +kernel
theorem d_Law_law_737 : decode c_Law_law 737 = .ok (.aload_n 0, 1) := by decide +kernel
theorem d_Law_law_738 : decode c_Law_law 738 = .ok (.iload 4, 2) := by decide +kernel
theorem d_Law_law_740 : decode c_Law_law 740 = .ok (.iconst 2, 1) := by decide +kernel
theorem d_Law_law_741 : decode c_Law_law 741 = .ok (.iadd, 1) := by decide +kernel
theorem d_Law_law_742 : decode c_Law_law 742 = .ok (.iaload, 1) := by decide +kernel
theorem d_Law_law_743 : decode c_Law_law 743 = .ok (.invokevirtual 99, 3) := by decide +kernel
theorem d_Law_law_746 : decode c_Law_law 746 = .ok (.if_icmp .eq 468, 3) := by decide +kernel
theorem d_Law_law_749 : decode c_Law_law 749 = .ok (.iconst 0, 1) := by decide +kernel
theorem d_Law_law_750 : decode c_Law_law 750 = .ok (.ireturn, 1) := by decide +kernel
theorem d_Law_law_751 : decode c_Law_law 751 = .ok (.aload_n 1, 1) := by decide +kernel
theorem d_Law_law_752 : decode c_Law_law 752 = .ok (.aload_n 0, 1) := by decide +kernel
theorem d_Law_law_753 : decode c_Law_law 753 = .ok (.iload 4, 2) := by decide +kernel
theorem d_Law_law_755 : decode c_Law_law 755 = .ok (.iconst 1, 1) := by decide +kernel
theorem d_Law_law_756 : decode c_Law_law 756 = .ok (.iadd, 1) := by decide +kernel
theorem d_Law_law_757 : decode c_Law_law 757 = .ok (.iaload, 1) := by decide +kernel
theorem d_Law_law_758 : decode c_Law_law 758 = .ok (.invokevirtual 100, 3) := by decide +kernel
theorem d_Law_law_761 : decode c_Law_law 761 = .ok (.aload_n 2, 1) := by decide +kernel
theorem d_Law_law_762 : decode c_Law_law 762 = .ok (.aload_n 0, 1) := by decide +kernel
theorem d_Law_law_763 : decode c_Law_law 763 = .ok (.iload 4, 2) := by decide +kernel
theorem d_Law_law_765 : decode c_Law_law 765 = .ok (.iconst 1, 1) := by decide +kernel
theorem d_Law_law_766 : decode c_Law_law 766 = .ok (.iadd, 1) := by decide +kernel
theorem d_Law_law_767 : decode c_Law_law 767 = .ok (.iaload, 1) := by decide +kernel
theorem d_Law_law_768 : decode c_Law_law 768 = .ok (.invokevirtual 103, 3) := by decide +kernel
theorem d_Law_law_771 : decode c_Law_law 771 = .ok (.if_icmp .eq 443, 3) := by decide +kernel
theorem d_Law_law_774 : decode c_Law_law 774 = .ok (.iconst 0, 1) := by decide +kernel
theorem d_Law_law_775 : decode c_Law_law 775 = .ok (.ireturn, 1) := by decide +kernel
theorem d_Law_law_776 : decode c_Law_law 776 = .ok (.aload_n 1, 1) := by decide +kernel
theorem d_Law_law_777 : decode c_Law_law 777 = .ok (.aload_n 0, 1) := by decide +kernel
theorem d_Law_law_778 : decode c_Law_law 778 = .ok (.iload 4, 2) := by decide +kernel
theorem d_Law_law_780 : decode c_Law_law 780 = .ok (.iconst 1, 1) := by decide +kernel
theorem d_Law_law_781 : decode c_Law_law 781 = .ok (.iadd, 1) := by decide +kernel
theorem d_Law_law_782 : decode c_Law_law 782 = .ok (.iaload, 1) := by decide +kernel
theorem d_Law_law_783 : decode c_Law_law 783 = .ok (.aload_n 0, 1) := by decide +kernel
theorem d_Law_law_784 : decode c_Law_law 784 = .ok (.iload 4, 2) := by decide +kernel
theorem d_Law_law_786 : decode c_Law_law 786 = .ok (.iconst 2, 1) := by decide +kernel
theorem d_Law_law_787 : decode c_Law_law 787 = .ok (.iadd, 1) := by decide +kernel
theorem d_Law_law_788 : decode c_Law_law 788 = .ok (.iaload, 1) := by decide +kernel
theorem d_Law_law_789 : decode c_Law_law 789 = .ok (.aload_n 0, 1) := by decide +kernel
theorem d_Law_law_790 : decode c_Law_law 790 = .ok (.iload 4, 2) := by decide +kernel
theorem d_Law_law_792 : decode c_Law_law 792 = .ok (.iconst 3, 1) := by decide +kernel
theorem d_Law_law_793 : decode c_Law_law 793 = .ok (.iadd, 1) := by decide +kernel
theorem d_Law_law_794 : decode c_Law_law 794 = .ok (.iaload, 1) := by decide +kernel
theorem d_Law_law_795 : decode c_Law_law 795 = .ok (.aload_n 3, 1) := by decide +kernel
theorem d_Law_law_796 : decode c_Law_law 796 = .ok (.invokestatic 104, 3) := by decide +kernel
