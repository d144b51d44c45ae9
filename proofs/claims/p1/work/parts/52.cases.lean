theorem dL_law_576 : decode cL_law 576 = .ok (.aload_n 1, 1) := by decide +kernel
theorem dL_law_577 : decode cL_law 577 = .ok (.aload_n 0, 1) := by decide +kernel
theorem dL_law_578 : decode cL_law 578 = .ok (.iload_n 3, 1) := by decide +kernel
theorem dL_law_579 : decode cL_law 579 = .ok (.iconst 1, 1) := by decide +kernel
theorem dL_law_580 : decode cL_law 580 = .ok (.iadd, 1) := by decide +kernel
theorem dL_law_581 : decode cL_law 581 = .ok (.iaload, 1) := by decide +kernel
theorem dL_law_582 : decode cL_law 582 = .ok (.invokevirtual 65, 3) := by decide +kernel
theorem dL_law_585 : decode cL_law 585 = .ok (.aload_n 2, 1) := by decide +kernel
theorem dL_law_586 : decode cL_law 586 = .ok (.aload_n 0, 1) := by decide +kernel
theorem dL_law_587 : decode cL_law 587 = .ok (.iload_n 3, 1) := by decide +kernel
theorem dL_law_588 : decode cL_law 588 = .ok (.iconst 1, 1) := by decide +kernel
theorem dL_law_589 : decode cL_law 589 = .ok (.iadd, 1) := by decide +kernel
theorem dL_law_590 : decode cL_law 590 = .ok (.iaload, 1) := by decide +kernel
theorem dL_law_591 : decode cL_law 591 = .ok (.invokevirtual 68, 3) := by decide +kernel
theorem dL_law_594 : decode cL_law 594 = .ok (.if_icmp .eq 1137, 3) := by decide +kernel
theorem dL_law_599 : decode cL_law 599 = .ok (.aload_n 1, 1) := by decide +kernel
theorem dL_law_600 : decode cL_law 600 = .ok (.aload_n 0, 1) := by decide +kernel
theorem dL_law_601 : decode cL_law 601 = .ok (.iload_n 3, 1) := by decide +kernel
theorem dL_law_602 : decode cL_law 602 = .ok (.iconst 1, 1) := by decide +kernel
theorem dL_law_603 : decode cL_law 603 = .ok (.iadd, 1) := by decide +kernel
theorem dL_law_604 : decode cL_law 604 = .ok (.iaload, 1) := by decide +kernel
theorem dL_law_605 : decode cL_law 605 = .ok (.invokevirtual 69, 3) := by decide +kernel
theorem dL_law_608 : decode cL_law 608 = .ok (.aload_n 2, 1) := by decide +kernel
theorem dL_law_609 : decode cL_law 609 = .ok (.aload_n 0, 1) := by decide +kernel
theorem dL_law_610 : decode cL_law 610 = .ok (.iload_n 3, 1) := by decide +kernel
theorem dL_law_611 : decode cL_law 611 = .ok (.iconst 1, 1) := by decide +kernel
theorem dL_law_612 : decode cL_law 612 = .ok (.iadd, 1) := by decide +kernel
theorem dL_law_613 : decode cL_law 613 = .ok (.iaload, 1) := by decide +kernel
theorem dL_law_614 : decode cL_law 614 = .ok (.invokevirtual 72, 3) := by decide +kernel
theorem dL_law_617 : decode cL_law 617 = .ok (.if_icmp .eq 1114, 3) := by decide +kernel
theorem dL_law_622 : decode cL_law 622 = .ok (.aload_n 1, 1) := by decide +kernel
theorem dL_law_623 : decode cL_law 623 = .ok (.aload_n 0, 1) := by decide +kernel
theorem dL_law_624 : decode cL_law 624 = .ok (.iload_n 3, 1) := by decide +kernel
theorem dL_law_625 : decode cL_law 625 = .ok (.iconst 1, 1) := by decide +kernel
theorem dL_law_626 : decode cL_law 626 = .ok (.iadd, 1) := by decide +kernel
theorem dL_law_627 : decode cL_law 627 = .ok (.iaload, 1) := by decide +kernel
theorem dL_law_628 : decode cL_law 628 = .ok (.aload_n 0, 1) := by decide +kernel
theorem dL_law_629 : decode cL_law 629 = .ok (.iload_n 3, 1) := by decide +kernel
theorem dL_law_630 : decode cL_law 630 = .ok (.iconst 2, 1) := by decide +kernel
theorem dL_law_631 : decode cL_law 631 = .ok (.iadd, 1) := by decide +kernel
theorem dL_law_632 : decode cL_law 632 = .ok (.iaload, 1) := by decide +kernel
theorem dL_law_633 : decode cL_law 633 = .ok (.invokevirtual 73, 3) := by decide +kernel
theorem dL_law_636 : decode cL_law 636 = .ok (.aload_n 2, 1) := by decide +kernel
theorem dL_law_637 : decode cL_law 637 = .ok (.aload_n 0, 1) := by decide +kernel
theorem dL_law_638 : decode cL_law 638 = .ok (.iload_n 3, 1) := by decide +kernel
theorem dL_law_639 : decode cL_law 639 = .ok (.iconst 1, 1) := by decide +kernel
theorem dL_law_640 : decode cL_law 640 = .ok (.iadd, 1) := by decide +kernel
theorem dL_law_641 : decode cL_law 641 = .ok (.iaload, 1) := by decide +kernel
theorem dL_law_642 : decode cL_law 642 = .ok (.aload_n 0, 1) := by decide +kernel
theorem dL_law_643 : decode cL_law 643 = .ok (.iload_n 3, 1) := by decide +kernel
theorem dL_law_644 : decode cL_law 644 = .ok (.iconst 2, 1) := by decide +kernel
theorem dL_law_645 : decode cL_law 645 = .ok (.iadd, 1) := by decide +kernel
theorem dL_law_646 : decode cL_law 646 = .ok (.iaload, 1) := by decide +kernel
theorem dL_law_647 : decode cL_law 647 = .ok (.invokevirtual 76, 3) := by decide +kernel
theorem dL_law_650 : decode cL_law 650 = .ok (.if_icmp .eq 1081, 3) := by decide +kernel
theorem dL_law_655 : decode cL_law 655 = .ok (.aload_n 1, 1) := by decide +kernel
theorem dL_law_656 : decode cL_law 656 = .ok (.aload_n 0, 1) := by decide +kernel
theorem dL_law_657 : decode cL_law 657 = .ok (.iload_n 3, 1) := by decide +kernel
theorem dL_law_658 : decode cL_law 658 = .ok (.iconst 1, 1) := by decide +kernel
theorem dL_law_659 : decode cL_law 659 = .ok (.iadd, 1) := by decide +kernel
theorem dL_law_660 : decode cL_law 660 = .ok (.iaload, 1) := by decide +kernel
theorem dL_law_661 : decode cL_law 661 = .ok (.aload_n 0, 1) := by decide +kernel
theorem dL_law_662 : decode cL_law 662 = .ok (.iload_n 3, 1) := by decide +kernel
theorem dL_law_663 : decode cL_law 663 = .ok (.iconst 2, 1) := by decide +kernel
theorem dL_law_664 : decode cL_law 664 = .ok (.iadd, 1) := by decide +kernel
theorem dL_law_665 : decode cL_law 665 = .ok (.iaload, 1) := by decide +kernel
theorem dL_law_666 : decode cL_law 666 = .ok (.invokevirtual 77, 3) := by decide +kernel
theorem dL_law_669 : decode cL_law 669 = .ok (.aload_n 2, 1) := by decide +kernel
theorem dL_law_670 : decode cL_law 670 = .ok (.aload_n 0, 1) := by decide +kernel
theorem dL_law_671 : decode cL_law 671 = .ok (.iload_n 3, 1) := by decide +kernel
theorem dL_law_672 : decode cL_law 672 = .ok (.iconst 1, 1) := by decide +kernel
theorem dL_law_673 : decode cL_law 673 = .ok (.iadd, 1) := by decide +kernel
theorem dL_law_674 : decode cL_law 674 = .ok (.iaload, 1) := by decide +kernel
theorem dL_law_675 : decode cL_law 675 = .ok (.aload_n 0, 1) := by decide +kernel
theorem dL_law_676 : decode cL_law 676 = .ok (.iload_n 3, 1) := by decide +kernel
theorem dL_law_677 : decode cL_law 677 = .ok (.iconst 2, 1) := by decide +kernel
theorem dL_law_678 : decode cL_law 678 = .ok (.iadd, 1) := by decide +kernel
theorem dL_law_679 : decode cL_law 679 = .ok (.iaload, 1) := by decide +kernel
theorem dL_law_680 : decode cL_law 680 = .ok (.invokevirtual 80, 3) := by decide +kernel
theorem dL_law_683 : decode cL_law 683 = .ok (.if_icmp .eq 1048, 3) := by decide +kernel
theorem dL_law_688 : decode cL_law 688 = .ok (.aload_n 1, 1) := by decide +kernel
theorem dL_law_689 : decode cL_law 689 = .ok (.aload_n 0, 1) := by decide +kernel
theorem dL_law_690 : decode cL_law 690 = .ok (.iload_n 3, 1) := by decide +kernel
theorem dL_law_691 : decode cL_law 691 = .ok (.iconst 1, 1) := by decide +kernel
theorem dL_law_692 : decode cL_law 692 = .ok (.iadd, 1) := by decide +kernel
theorem dL_law_693 : decode cL_law 693 = .ok (.iaload, 1) := by decide +kernel
theorem dL_law_694 : decode cL_law 694 = .ok (.invokevirtual 81, 3) := by decide +kernel
theorem dL_law_697 : decode cL_law 697 = .ok (.aload_n 2, 1) := by decide +kernel
theorem dL_law_698 : decode cL_law 698 = .ok (.aload_n 0, 1) := by decide +kernel
theorem dL_law_699 : decode cL_law 699 = .ok (.iload_n 3, 1) := by decide +kernel
theorem dL_law_700 : decode cL_law 700 = .ok (.iconst 1, 1) := by decide +kernel
theorem dL_law_701 : decode cL_law 701 = .ok (.iadd, 1) := by decide +kernel
theorem dL_law_702 : decode cL_law 702 = .ok (.iaload, 1) := by decide +kernel
theorem dL_law_703 : decode cL_law 703 = .ok (.invokevirtual 84, 3) := by decide +kernel
theorem dL_law_706 : decode cL_law 706 = .ok (.if_icmp .eq 1025, 3) := by decide +kernel
theorem dL_law_711 : decode cL_law 711 = .ok (.aload_n 1, 1) := by decide +kernel
theorem dL_law_712 : decode cL_law 712 = .ok (.invokevirtual 85, 3) := by decide +kernel
theorem dL_law_715 : decode cL_law 715 = .ok (.aload_n 2, 1) := by decide +kernel
theorem dL_law_716 : decode cL_law 716 = .ok (.invokevirtual 88, 3) := by decide +kernel
theorem dL_law_719 : decode cL_law 719 = .ok (.if_icmp .eq 1012, 3) := by decide +kernel
theorem dL_law_724 : decode cL_law 724 = .ok (.aload_n 1, 1) := by decide +kernel
theorem dL_law_725 : decode cL_law 725 = .ok (.aload_n 0, 1) := by decide +kernel
theorem dL_law_726 : decode cL_law 726 = .ok (.iload_n 3, 1) := by decide +kernel
theorem dL_law_727 : decode cL_law 727 = .ok (.iconst 1, 1) := by decide +kernel
theorem dL_law_728 : decode cL_law 728 = .ok (.iadd, 1) := by decide +kernel
theorem dL_law_729 : decode cL_law 729 = .ok (.iaload, 1) := by decide +kernel
theorem dL_law_730 : decode cL_law 730 = .ok (.invokevirtual 89, 3) := by decide +kernel
theorem dL_law_733 : decode cL_law 733 = .ok (.aload_n 2, 1) := by decide +kernel
theorem dL_law_734 : decode cL_law 734 = .ok (.aload_n 0, 1) := by decide +kernel
theorem dL_law_735 : decode cL_law 735 = .ok (.iload_n 3, 1) := by decide +kernel
theorem dL_law_736 : decode cL_law 736 = .ok (.iconst 1, 1) := by decide +kernel
theorem dL_law_737 : decode cL_law 737 = .ok (.iadd, 1) := by decide +kernel
theorem dL_law_738 : decode cL_law 738 = .ok (.iaload, 1) := by decide +kernel
theorem dL_law_739 : decode cL_law 739 = .ok (.invokevirtual 92, 3) := by decide +kernel
theorem dL_law_742 : decode cL_law 742 = .ok (.if_icmp .eq 989, 3) := by decide +kernel
theorem dL_law_747 : decode cL_law 747 = .ok (.aload_n 1, 1) := by decide +kernel
theorem dL_law_748 : decode cL_law 748 = .ok (.invokevirtual 93, 3) := by decide +kernel
theorem dL_law_751 : decode cL_law 751 = .ok (.aload_n 2, 1) := by decide +kernel
theorem dL_law_752 : decode cL_law 752 = .ok (.invokevirtual 96, 3) := by decide +kernel
theorem dL_law_755 : decode cL_law 755 = .ok (.if_icmp .eq 976, 3) := by decide +kernel
theorem dL_law_760 : decode cL_law 760 = .ok (.aload_n 1, 1) := by decide +kernel
theorem dL_law_761 : decode cL_law 761 = .ok (.aload_n 0, 1) := by decide +kernel
theorem dL_law_762 : decode cL_law 762 = .ok (.iload_n 3, 1) := by decide +kernel
theorem dL_law_763 : decode cL_law 763 = .ok (.iconst 1, 1) := by decide +kernel
theorem dL_law_764 : decode cL_law 764 = .ok (.iadd, 1) := by decide +kernel
theorem dL_law_765 : decode cL_law 765 = .ok (.iaload, 1) := by decide +kernel
theorem dL_law_766 : decode cL_law 766 = .ok (.aload_n 0, 1) := by decide +kernel
theorem dL_law_767 : decode cL_law 767 = .ok (.iload_n 3, 1) := by decide +kernel
theorem dL_law_768 : decode cL_law 768 = .ok (.iconst 2, 1) := by decide +kernel
theorem dL_law_769 : decode cL_law 769 = .ok (.iadd, 1) := by decide +kernel
theorem dL_law_770 : decode cL_law 770 = .ok (.iaload, 1) := by decide +kernel
theorem dL_law_771 : decode cL_law 771 = .ok (.invokevirtual 97, 3) := by decide +kernel
theorem dL_law_774 : decode cL_law 774 = .ok (.aload_n 2, 1) := by decide +kernel
theorem dL_law_775 : decode cL_law 775 = .ok (.aload_n 0, 1) := by decide +kernel
theorem dL_law_776 : decode cL_law 776 = .ok (.iload_n 3, 1) := by decide +kernel
theorem dL_law_777 : decode cL_law 777 = .ok (.iconst 1, 1) := by decide +kernel
theorem dL_law_778 : decode cL_law 778 = .ok (.iadd, 1) := by decide +kernel
theorem dL_law_779 : decode cL_law 779 = .ok (.iaload, 1) := by decide +kernel
theorem dL_law_780 : decode cL_law 780 = .ok (.aload_n 0, 1) := by decide +kernel
theorem dL_law_781 : decode cL_law 781 = .ok (.iload_n 3, 1) := by decide +kernel
theorem dL_law_782 : decode cL_law 782 = .ok (.iconst 2, 1) := by decide +kernel
theorem dL_law_783 : decode cL_law 783 = .ok (.iadd, 1) := by decide +kernel
theorem dL_law_784 : decode cL_law 784 = .ok (.iaload, 1) := by decide +kernel
theorem dL_law_785 : decode cL_law 785 = .ok (.invokevirtual 100, 3) := by decide +kernel
theorem dL_law_788 : decode cL_law 788 = .ok (.if_icmp .eq 943, 3) := by decide +kernel
theorem dL_law_793 : decode cL_law 793 = .ok (.aload_n 1, 1) := by decide +kernel
theorem dL_law_794 : decode cL_law 794 = .ok (.aload_n 0, 1) := by decide +kernel
theorem dL_law_795 : decode cL_law 795 = .ok (.iload_n 3, 1) := by decide +kernel
theorem dL_law_796 : decode cL_law 796 = .ok (.iconst 1, 1) := by decide +kernel
theorem dL_law_797 : decode cL_law 797 = .ok (.iadd, 1) := by decide +kernel
theorem dL_law_798 : decode cL_law 798 = .ok (.iaload, 1) := by decide +kernel
theorem dL_law_799 : decode cL_law 799 = .ok (.aload_n 0, 1) := by decide +kernel
theorem dL_law_800 : decode cL_law 800 = .ok (.iload_n 3, 1) := by decide +kernel
theorem dL_law_801 : decode cL_law 801 = .ok (.iconst 2, 1) := by decide +kernel
theorem dL_law_802 : decode cL_law 802 = .ok (.iadd, 1) := by decide +kernel
theorem dL_law_803 : decode cL_law 803 = .ok (.iaload, 1) := by decide +kernel
theorem dL_law_804 : decode cL_law 804 = .ok (.ifCond .eq 7, 3) := by decide +kernel
theorem dL_law_807 : decode cL_law 807 = .ok (.iconst 1, 1) := by decide +kernel
theorem dL_law_808 : decode cL_law 808 = .ok (.goto 4, 3) := by decide +kernel
theorem dL_law_811 : decode cL_law 811 = .ok (.iconst 0, 1) := by decide +kernel
theorem dL_law_812 : decode cL_law 812 = .ok (.invokevirtual 101, 3) := by decide +kernel
theorem dL_law_815 : decode cL_law 815 = .ok (.aload_n 2, 1) := by decide +kernel
theorem dL_law_816 : decode cL_law 816 = .ok (.aload_n 0, 1) := by decide +kernel
theorem dL_law_817 : decode cL_law 817 = .ok (.iload_n 3, 1) := by decide +kernel
theorem dL_law_818 : decode cL_law 818 = .ok (.iconst 1, 1) := by decide +kernel
theorem dL_law_819 : decode cL_law 819 = .ok (.iadd, 1) := by decide +kernel
theorem dL_law_820 : decode cL_law 820 = .ok (.iaload, 1) := by decide +kernel
theorem dL_law_821 : decode cL_law 821 = .ok (.aload_n 0, 1) := by decide +kernel
theorem dL_law_822 : decode cL_law 822 = .ok (.iload_n 3, 1) := by decide +kernel
theorem dL_law_823 : decode cL_law 823 = .ok (.iconst 2, 1) := by decide +kernel
theorem dL_law_824 : decode cL_law 824 = .ok (.iadd, 1) := by decide +kernel
theorem dL_law_825 : decode cL_law 825 = .ok (.iaload, 1) := by decide +kernel
theorem dL_law_826 : decode cL_law 826 = .ok (.ifCond .eq 7, 3) := by decide +kernel
theorem dL_law_829 : decode cL_law 829 = .ok (.iconst 1, 1) := by decide +kernel
theorem dL_law_830 : decode cL_law 830 = .ok (.goto 4, 3) := by decide +kernel
theorem dL_law_833 : decode cL_law 833 = .ok (.iconst 0, 1) := by decide +kernel
theorem dL_law_834 : decode cL_law 834 = .ok (.invokevirtual 105, 3) := by decide +kernel
theorem dL_law_837 : decode cL_law 837 = .ok (.if_icmp .eq 894, 3) := by decide +kernel
theorem dL_law_842 : decode cL_law 842 = .ok (.aload_n 1, 1) := by decide +kernel
theorem dL_law_843 : decode cL_law 843 = .ok (.aload_n 0, 1) := by decide +kernel
theorem dL_law_844 : decode cL_law 844 = .ok (.iload_n 3, 1) := by decide +kernel
theorem dL_law_845 : decode cL_law 845 = .ok (.iconst 1, 1) := by decide +kernel
theorem dL_law_846 : decode cL_law 846 = .ok (.iadd, 1) := by decide +kernel
theorem dL_law_847 : decode cL_law 847 = .ok (.iaload, 1) := by decide +kernel
theorem dL_law_848 : decode cL_law 848 = .ok (.aload_n 0, 1) := by decide +kernel
theorem dL_law_849 : decode cL_law 849 = .ok (.iload_n 3, 1) := by decide +kernel
theorem dL_law_850 : decode cL_law 850 = .ok (.iconst 2, 1) := by decide +kernel
theorem dL_law_851 : decode cL_law 851 = .ok (.iadd, 1) := by decide +kernel
theorem dL_law_852 : decode cL_law 852 = .ok (.iaload, 1) := by decide +kernel
theorem dL_law_853 : decode cL_law 853 = .ok (.invokevirtual 106, 3) := by decide +kernel
theorem dL_law_856 : decode cL_law 856 = .ok (.aload_n 2, 1) := by decide +kernel
theorem dL_law_857 : decode cL_law 857 = .ok (.aload_n 0, 1) := by decide +kernel
theorem dL_law_858 : decode cL_law 858 = .ok (.iload_n 3, 1) := by decide +kernel
theorem dL_law_859 : decode cL_law 859 = .ok (.iconst 1, 1) := by decide +kernel
theorem dL_law_860 : decode cL_law 860 = .ok (.iadd, 1) := by decide +kernel
theorem dL_law_861 : decode cL_law 861 = .ok (.iaload, 1) := by decide +kernel
theorem dL_law_862 : decode cL_law 862 = .ok (.aload_n 0, 1) := by decide +kernel
theorem dL_law_863 : decode cL_law 863 = .ok (.iload_n 3, 1) := by decide +kernel
theorem dL_law_864 : decode cL_law 864 = .ok (.iconst 2, 1) := by decide +kernel
theorem dL_law_865 : decode cL_law 865 = .ok (.iadd, 1) := by decide +kernel
theorem dL_law_866 : decode cL_law 866 = .ok (.iaload, 1) := by decide +kernel
theorem dL_law_867 : decode cL_law 867 = .ok (.invokevirtual 109, 3) := by decide +kernel
theorem dL_law_870 : decode cL_law 870 = .ok (.if_icmp .eq 861, 3) := by decide +kernel
theorem dL_law_875 : decode cL_law 875 = .ok (.aload_n 1, 1) := by decide +kernel
theorem dL_law_876 : decode cL_law 876 = .ok (.invokevirtual 110, 3) := by decide +kernel
theorem dL_law_879 : decode cL_law 879 = .ok (.aload_n 2, 1) := by decide +kernel
theorem dL_law_880 : decode cL_law 880 = .ok (.invokevirtual 113, 3) := by decide +kernel
theorem dL_law_883 : decode cL_law 883 = .ok (.if_icmp .eq 848, 3) := by decide +kernel
set_option maxHeartbeats 4000000 in
set_option maxRecDepth 100000 in
/-- the call of stands on two fresh objects -/
theorem lcase_12 {p : Program} {l : Launch} {e : Env} {s : State} {m : MethodId} {below : List Frame} {meth : Method} {c : Code} {b : Nat} {xs : Nat → Int32} {dC : Nat → ClassId} {dI : Nat → Nat → Nat} {cI cZ cB cJ cM : ClassId} (x0 y0 : Nat) (u v : Nat → Nat) {H : Heap} {locs : List Loc} {ls : Array Slot} (C0 : lw_At p s m meth c b 6 xs) (hK : va_K (dC, dI) vwCl [(cI, .int), (cZ, .boolean), (cB, .byte), (cJ, .long), (cM, .object RX2)] s) (hP : va_P (dC, dI) vwCl [(x0, .inr (11, [.ref (u 0), .ref (u 2), .ref (u 3), .ref (u 4), .ref (u 5), .ref (u 10), .ref (u 11), .ref (u 12), .ref (u 98), .ref (u 124)])), (u 98, .inr (2, [.int 0, .int 0, .int 0, .int 0, .int 0, .int 0, .int 0, .int 0, .int 0, .ref (u 99), .ref (u 107), .ref (u 117), .ref (u 122), .ref (u 123)])), (u 122, .inr (7, [.int 0, .int 0, .int 0, .int 0, .int 0, .int 0, .int (-1), .int 0])), (y0, .inr (12, [.int 0, .ref (v 1), .ref (v 2), .ref (v 3), .ref (v 4), .int 0, .ref (v 6), .int 0, .int 0, .int 0, .int 0, .int 0, .int 0, .int (-1), .ref (v 14), .ref (v 15), .ref (v 16), .ref (v 17), .ref (v 18), .ref (v 19), .ref (v 20), .int 0, .ref (v 22), .int 0, .ref (v 24), .ref (v 25), .int 0, .ref (v 27), .ref (v 28), .ref (v 29), .ref (v 30), .int 0, .int 0, .int 0, .int 0, .int 0, .ref (v 36), .long 0, .ref (v 38), .ref (v 39), .ref (v 40), .ref (v 41)])), (v 1, .inl (cI, 544, .inl (upd (upd (upd (fun _ => 0) 8 1) 9 1) 17 (-1))))] H) (hD : va_D (fun q : Nat => s.heap.size ≤ q) [(x0, .inr (11, [.ref (u 0), .ref (u 2), .ref (u 3), .ref (u 4), .ref (u 5), .ref (u 10), .ref (u 11), .ref (u 12), .ref (u 98), .ref (u 124)])), (u 98, .inr (2, [.int 0, .int 0, .int 0, .int 0, .int 0, .int 0, .int 0, .int 0, .int 0, .ref (u 99), .ref (u 107), .ref (u 117), .ref (u 122), .ref (u 123)])), (u 122, .inr (7, [.int 0, .int 0, .int 0, .int 0, .int 0, .int 0, .int (-1), .int 0])), (y0, .inr (12, [.int 0, .ref (v 1), .ref (v 2), .ref (v 3), .ref (v 4), .int 0, .ref (v 6), .int 0, .int 0, .int 0, .int 0, .int 0, .int 0, .int (-1), .ref (v 14), .ref (v 15), .ref (v 16), .ref (v 17), .ref (v 18), .ref (v 19), .ref (v 20), .int 0, .ref (v 22), .int 0, .ref (v 24), .ref (v 25), .int 0, .ref (v 27), .ref (v 28), .ref (v 29), .ref (v 30), .int 0, .int 0, .int 0, .int 0, .int 0, .ref (v 36), .long 0, .ref (v 38), .ref (v 39), .ref (v 40), .ref (v 41)])), (v 1, .inl (cI, 544, .inl (upd (upd (upd (fun _ => 0) 8 1) 9 1) 17 (-1))))]) (hS : va_S (fun q : Nat => s.heap.size ≤ q) s.heap H locs) (hl : lv_has ls 4 [(3, .int 0), (2, .ref y0), (1, .ref x0), (0, .ref b)]) : W p l e room_1 s m #[Value.ref b] below meth c H locs 600000 7302250 (lw_Z below #[Value.ref b] s) (F0 m 576 ls []) := by
  obtain ⟨hx, hb, hr, hml, hown0, hts, hX, hbl, hlocks, hgv⟩ := id C0
  have hb : c.code = cL_law := hb
  have hown : s.vm.findClass RL = some m.cls := hown0
  have hwd : ∀ wd ∈ wsL_law, wd.before #[Value.ref b] s = true := fun w h => hts w (wsL_law_in w h)
  have hA : ∀ q : Nat, s.heap.size ≤ q → (fun q : Nat => s.heap.size ≤ q) q := fun _ h => h
  have hbA : ¬ (fun q : Nat => s.heap.size ≤ q) b := Nat.not_le.mpr hbl
  refine lv_aload_n hx hb dL_law_576 rfl (lv_at hl 2 rfl) ?_
  refine lv_aload_n hx hb dL_law_577 rfl (lv_at hl 3 rfl) ?_
  refine lv_iload_n hx hb dL_law_578 rfl (lv_at hl 0 rfl) ?_
  refine lv_iconst (v := 1) hx hb dL_law_579 (by decide) ?_
  refine lv_iadd hx hb dL_law_580 ?_
  refine lv_topi (nm_r (e' := (1)) (by decide +kernel) ?_)
  refine va_sld hx hb hX hbl hbA hS (vin (by decide)) dL_law_581 ?_
  have hPc := hP.sub (ws' := [(x0, .inr (11, [.ref (u 0), .ref (u 2), .ref (u 3), .ref (u 4), .ref (u 5), .ref (u 10), .ref (u 11), .ref (u 12), .ref (u 98), .ref (u 124)])), (u 98, .inr (2, [.int 0, .int 0, .int 0, .int 0, .int 0, .int 0, .int 0, .int 0, .int 0, .ref (u 99), .ref (u 107), .ref (u 117), .ref (u 122), .ref (u 123)])), (u 122, .inr (7, [.int 0, .int 0, .int 0, .int 0, .int 0, .int 0, .int (-1), .int 0]))]) [0, 1, 2] rfl
  have hDc := hD.sub (ws' := [(x0, .inr (11, [.ref (u 0), .ref (u 2), .ref (u 3), .ref (u 4), .ref (u 5), .ref (u 10), .ref (u 11), .ref (u 12), .ref (u 98), .ref (u 124)])), (u 98, .inr (2, [.int 0, .int 0, .int 0, .int 0, .int 0, .int 0, .int 0, .int 0, .int 0, .ref (u 99), .ref (u 107), .ref (u 117), .ref (u 122), .ref (u 123)])), (u 122, .inr (7, [.int 0, .int 0, .int 0, .int 0, .int 0, .int 0, .int (-1), .int 0]))]) [0, 1, 2] (by decide) rfl
  have hFc := va_free (wc := [(x0, .inr (11, [.ref (u 0), .ref (u 2), .ref (u 3), .ref (u 4), .ref (u 5), .ref (u 10), .ref (u 11), .ref (u 12), .ref (u 98), .ref (u 124)])), (u 98, .inr (2, [.int 0, .int 0, .int 0, .int 0, .int 0, .int 0, .int 0, .int 0, .int 0, .ref (u 99), .ref (u 107), .ref (u 117), .ref (u 122), .ref (u 123)])), (u 122, .inr (7, [.int 0, .int 0, .int 0, .int 0, .int 0, .int 0, .int (-1), .int 0]))]) hD hS hA [0, 1, 2] rfl
  refine va_calli (va_runV (As := [.int (xs (1 : Int32).toNatClampNeg)]) (rest := []) ⟨hx, hb, hml, hown, hwd⟩ (c_X11_stands l dC dI cI cZ cB cJ cM x0 (u 0) (u 2) (u 3) (u 4) (u 5) (u 10) (u 11) (u 12) (u 98) (u 124) (u 99) (u 107) (u 117) (u 122) (u 123) (xs (1 : Int32).toNatClampNeg) H.size) (cwV 1 hwd (gV kr18_22 kr18_23 kr19_0 kr1_2 kr19_1) rfl rfl rfl (by decide +kernel) ⟨Nat.le_of_ble_eq_true rfl, Nat.le_of_ble_eq_true rfl⟩) (kPreV hPc hK hDc (ci := 11) (q0 := 0) rfl rfl) rfl rfl hl.1 rfl (lv_room (Nat.le_of_ble_eq_true rfl)) dL_law_582 ⟨Nat.le_of_ble_eq_true rfl, Nat.le_of_ble_eq_true rfl⟩) hS (fun q _ h => hFc q h) hFc (fun r1 u2 t H1 locs ht9 hvm hw hB hz1 hk1 hS => ?_)
  obtain ⟨hP, hD⟩ := va_join (wr := [(y0, .inr (12, [.int 0, .ref (v 1), .ref (v 2), .ref (v 3), .ref (v 4), .int 0, .ref (v 6), .int 0, .int 0, .int 0, .int 0, .int 0, .int 0, .int (-1), .ref (v 14), .ref (v 15), .ref (v 16), .ref (v 17), .ref (v 18), .ref (v 19), .ref (v 20), .int 0, .ref (v 22), .int 0, .ref (v 24), .ref (v 25), .int 0, .ref (v 27), .ref (v 28), .ref (v 29), .ref (v 30), .int 0, .int 0, .int 0, .int 0, .int 0, .ref (v 36), .long 0, .ref (v 38), .ref (v 39), .ref (v 40), .ref (v 41)])), (v 1, .inl (cI, 544, .inl (upd (upd (upd (fun _ => 0) 8 1) 9 1) 17 (-1))))]) (w1 := []) hP hD [0, 1, 2] [3, 4] rfl rfl (by decide) (by decide) hk1 hFc kP0 kD0
  generalize H1 = H at hP hS ⊢
  have hP : va_P (dC, dI) vwCl [(y0, .inr (12, [.int 0, .ref (v 1), .ref (v 2), .ref (v 3), .ref (v 4), .int 0, .ref (v 6), .int 0, .int 0, .int 0, .int 0, .int 0, .int 0, .int (-1), .ref (v 14), .ref (v 15), .ref (v 16), .ref (v 17), .ref (v 18), .ref (v 19), .ref (v 20), .int 0, .ref (v 22), .int 0, .ref (v 24), .ref (v 25), .int 0, .ref (v 27), .ref (v 28), .ref (v 29), .ref (v 30), .int 0, .int 0, .int 0, .int 0, .int 0, .ref (v 36), .long 0, .ref (v 38), .ref (v 39), .ref (v 40), .ref (v 41)])), (v 1, .inl (cI, 544, .inl (upd (upd (upd (fun _ => 0) 8 1) 9 1) 17 (-1))))] H := hP
  have hD : va_D (fun q : Nat => s.heap.size ≤ q) [(y0, .inr (12, [.int 0, .ref (v 1), .ref (v 2), .ref (v 3), .ref (v 4), .int 0, .ref (v 6), .int 0, .int 0, .int 0, .int 0, .int 0, .int 0, .int (-1), .ref (v 14), .ref (v 15), .ref (v 16), .ref (v 17), .ref (v 18), .ref (v 19), .ref (v 20), .int 0, .ref (v 22), .int 0, .ref (v 24), .ref (v 25), .int 0, .ref (v 27), .ref (v 28), .ref (v 29), .ref (v 30), .int 0, .int 0, .int 0, .int 0, .int 0, .ref (v 36), .long 0, .ref (v 38), .ref (v 39), .ref (v 40), .ref (v 41)])), (v 1, .inl (cI, 544, .inl (upd (upd (upd (fun _ => 0) 8 1) 9 1) 17 (-1))))] := hD
  have hs3 := hw
  refine lv_aload_n hx hb dL_law_585 rfl (lv_at hl 1 rfl) ?_
  refine lv_aload_n hx hb dL_law_586 rfl (lv_at hl 3 rfl) ?_
  refine lv_iload_n hx hb dL_law_587 rfl (lv_at hl 0 rfl) ?_
  refine lv_iconst (v := 1) hx hb dL_law_588 (by decide) ?_
  refine lv_iadd hx hb dL_law_589 ?_
  refine lv_topi (nm_r (e' := (1)) (by decide +kernel) ?_)
  refine va_sld hx hb hX hbl hbA hS (vin (by decide)) dL_law_590 ?_
  have hPc := hP.sub (ws' := [(y0, .inr (12, [.int 0, .ref (v 1), .ref (v 2), .ref (v 3), .ref (v 4), .int 0, .ref (v 6), .int 0, .int 0, .int 0, .int 0, .int 0, .int 0, .int (-1), .ref (v 14), .ref (v 15), .ref (v 16), .ref (v 17), .ref (v 18), .ref (v 19), .ref (v 20), .int 0, .ref (v 22), .int 0, .ref (v 24), .ref (v 25), .int 0, .ref (v 27), .ref (v 28), .ref (v 29), .ref (v 30), .int 0, .int 0, .int 0, .int 0, .int 0, .ref (v 36), .long 0, .ref (v 38), .ref (v 39), .ref (v 40), .ref (v 41)])), (v 1, .inl (cI, 544, .inl (upd (upd (upd (fun _ => 0) 8 1) 9 1) 17 (-1))))]) [0, 1] rfl
  have hDc := hD.sub (ws' := [(y0, .inr (12, [.int 0, .ref (v 1), .ref (v 2), .ref (v 3), .ref (v 4), .int 0, .ref (v 6), .int 0, .int 0, .int 0, .int 0, .int 0, .int 0, .int (-1), .ref (v 14), .ref (v 15), .ref (v 16), .ref (v 17), .ref (v 18), .ref (v 19), .ref (v 20), .int 0, .ref (v 22), .int 0, .ref (v 24), .ref (v 25), .int 0, .ref (v 27), .ref (v 28), .ref (v 29), .ref (v 30), .int 0, .int 0, .int 0, .int 0, .int 0, .ref (v 36), .long 0, .ref (v 38), .ref (v 39), .ref (v 40), .ref (v 41)])), (v 1, .inl (cI, 544, .inl (upd (upd (upd (fun _ => 0) 8 1) 9 1) 17 (-1))))]) [0, 1] (by decide) rfl
  have hFc := va_free (wc := [(y0, .inr (12, [.int 0, .ref (v 1), .ref (v 2), .ref (v 3), .ref (v 4), .int 0, .ref (v 6), .int 0, .int 0, .int 0, .int 0, .int 0, .int 0, .int (-1), .ref (v 14), .ref (v 15), .ref (v 16), .ref (v 17), .ref (v 18), .ref (v 19), .ref (v 20), .int 0, .ref (v 22), .int 0, .ref (v 24), .ref (v 25), .int 0, .ref (v 27), .ref (v 28), .ref (v 29), .ref (v 30), .int 0, .int 0, .int 0, .int 0, .int 0, .ref (v 36), .long 0, .ref (v 38), .ref (v 39), .ref (v 40), .ref (v 41)])), (v 1, .inl (cI, 544, .inl (upd (upd (upd (fun _ => 0) 8 1) 9 1) 17 (-1))))]) hD hS hA [0, 1] rfl
  refine va_calli (va_runV (As := [.int (xs (1 : Int32).toNatClampNeg)]) (rest := [.int r1]) ⟨hx, hb, hml, hown, hwd⟩ (c_X12_stands l dC dI cI cZ cB cJ cM y0 v (xs (1 : Int32).toNatClampNeg) H.size) (cwV 1 hwd (gV kr19_10 kr19_11 kr19_12 kr1_5 kr19_13) rfl rfl rfl (by decide +kernel) ⟨Nat.le_of_ble_eq_true rfl, Nat.le_of_ble_eq_true rfl⟩) (kPreV hPc hK hDc (ci := 12) (q0 := 0) rfl rfl) rfl rfl hl.1 rfl (lv_room (Nat.le_of_ble_eq_true rfl)) dL_law_591 ⟨Nat.le_of_ble_eq_true rfl, Nat.le_of_ble_eq_true rfl⟩) hS (fun q _ h => hFc q h) hFc (fun r4 u5 t H1 locs ht9 hvm hw hB hz1 hk1 hS => ?_)
  obtain ⟨hP, hD⟩ := va_join (wr := []) (w1 := []) hP hD [0, 1] [] rfl rfl (by decide) (by decide) hk1 hFc kP0 kD0
  generalize H1 = H at hP hS ⊢
  have hP : va_P (dC, dI) vwCl [] H := hP
  have hD : va_D (fun q : Nat => s.heap.size ≤ q) [] := hD
  have hs6 := hw
  refine lv_icmp_eq (tgt := 1731) hx hb dL_law_594 (by decide) (fun c7 => ?_) (fun c7 => absurd (by simp only [Sp_stands] at hs3 hs6; rw [ki_eq]; omega) c7)
  exact law_tail C0 hS (lv_sub hl [3, 0] rfl)
set_option maxHeartbeats 4000000 in
set_option maxRecDepth 100000 in
/-- the call of pawl on two fresh objects -/
theorem lcase_13 {p : Program} {l : Launch} {e : Env} {s : State} {m : MethodId} {below : List Frame} {meth : Method} {c : Code} {b : Nat} {xs : Nat → Int32} {dC : Nat → ClassId} {dI : Nat → Nat → Nat} {cI cZ cB cJ cM : ClassId} (x0 y0 : Nat) (u v : Nat → Nat) {H : Heap} {locs : List Loc} {ls : Array Slot} (C0 : lw_At p s m meth c b 6 xs) (hK : va_K (dC, dI) vwCl [(cI, .int), (cZ, .boolean), (cB, .byte), (cJ, .long), (cM, .object RX2)] s) (hP : va_P (dC, dI) vwCl [(x0, .inr (11, [.ref (u 0), .ref (u 2), .ref (u 3), .ref (u 4), .ref (u 5), .ref (u 10), .ref (u 11), .ref (u 12), .ref (u 98), .ref (u 124)])), (u 98, .inr (2, [.int 0, .int 0, .int 0, .int 0, .int 0, .int 0, .int 0, .int 0, .int 0, .ref (u 99), .ref (u 107), .ref (u 117), .ref (u 122), .ref (u 123)])), (u 117, .inr (4, [.int 0, .ref (u 118), .ref (u 119), .ref (u 120), .ref (u 121)])), (y0, .inr (12, [.int 0, .ref (v 1), .ref (v 2), .ref (v 3), .ref (v 4), .int 0, .ref (v 6), .int 0, .int 0, .int 0, .int 0, .int 0, .int 0, .int (-1), .ref (v 14), .ref (v 15), .ref (v 16), .ref (v 17), .ref (v 18), .ref (v 19), .ref (v 20), .int 0, .ref (v 22), .int 0, .ref (v 24), .ref (v 25), .int 0, .ref (v 27), .ref (v 28), .ref (v 29), .ref (v 30), .int 0, .int 0, .int 0, .int 0, .int 0, .ref (v 36), .long 0, .ref (v 38), .ref (v 39), .ref (v 40), .ref (v 41)])), (v 1, .inl (cI, 544, .inl (upd (upd (upd (fun _ => 0) 8 1) 9 1) 17 (-1))))] H) (hD : va_D (fun q : Nat => s.heap.size ≤ q) [(x0, .inr (11, [.ref (u 0), .ref (u 2), .ref (u 3), .ref (u 4), .ref (u 5), .ref (u 10), .ref (u 11), .ref (u 12), .ref (u 98), .ref (u 124)])), (u 98, .inr (2, [.int 0, .int 0, .int 0, .int 0, .int 0, .int 0, .int 0, .int 0, .int 0, .ref (u 99), .ref (u 107), .ref (u 117), .ref (u 122), .ref (u 123)])), (u 117, .inr (4, [.int 0, .ref (u 118), .ref (u 119), .ref (u 120), .ref (u 121)])), (y0, .inr (12, [.int 0, .ref (v 1), .ref (v 2), .ref (v 3), .ref (v 4), .int 0, .ref (v 6), .int 0, .int 0, .int 0, .int 0, .int 0, .int 0, .int (-1), .ref (v 14), .ref (v 15), .ref (v 16), .ref (v 17), .ref (v 18), .ref (v 19), .ref (v 20), .int 0, .ref (v 22), .int 0, .ref (v 24), .ref (v 25), .int 0, .ref (v 27), .ref (v 28), .ref (v 29), .ref (v 30), .int 0, .int 0, .int 0, .int 0, .int 0, .ref (v 36), .long 0, .ref (v 38), .ref (v 39), .ref (v 40), .ref (v 41)])), (v 1, .inl (cI, 544, .inl (upd (upd (upd (fun _ => 0) 8 1) 9 1) 17 (-1))))]) (hS : va_S (fun q : Nat => s.heap.size ≤ q) s.heap H locs) (hl : lv_has ls 4 [(3, .int 0), (2, .ref y0), (1, .ref x0), (0, .ref b)]) : W p l e room_1 s m #[Value.ref b] below meth c H locs 600000 7302250 (lw_Z below #[Value.ref b] s) (F0 m 599 ls []) := by
  obtain ⟨hx, hb, hr, hml, hown0, hts, hX, hbl, hlocks, hgv⟩ := id C0
  have hb : c.code = cL_law := hb
  have hown : s.vm.findClass RL = some m.cls := hown0
  have hwd : ∀ wd ∈ wsL_law, wd.before #[Value.ref b] s = true := fun w h => hts w (wsL_law_in w h)
  have hA : ∀ q : Nat, s.heap.size ≤ q → (fun q : Nat => s.heap.size ≤ q) q := fun _ h => h
  have hbA : ¬ (fun q : Nat => s.heap.size ≤ q) b := Nat.not_le.mpr hbl
  refine lv_aload_n hx hb dL_law_599 rfl (lv_at hl 2 rfl) ?_
  refine lv_aload_n hx hb dL_law_600 rfl (lv_at hl 3 rfl) ?_
  refine lv_iload_n hx hb dL_law_601 rfl (lv_at hl 0 rfl) ?_
  refine lv_iconst (v := 1) hx hb dL_law_602 (by decide) ?_
  refine lv_iadd hx hb dL_law_603 ?_
  refine lv_topi (nm_r (e' := (1)) (by decide +kernel) ?_)
  refine va_sld hx hb hX hbl hbA hS (vin (by decide)) dL_law_604 ?_
  have hPc := hP.sub (ws' := [(x0, .inr (11, [.ref (u 0), .ref (u 2), .ref (u 3), .ref (u 4), .ref (u 5), .ref (u 10), .ref (u 11), .ref (u 12), .ref (u 98), .ref (u 124)])), (u 98, .inr (2, [.int 0, .int 0, .int 0, .int 0, .int 0, .int 0, .int 0, .int 0, .int 0, .ref (u 99), .ref (u 107), .ref (u 117), .ref (u 122), .ref (u 123)])), (u 117, .inr (4, [.int 0, .ref (u 118), .ref (u 119), .ref (u 120), .ref (u 121)]))]) [0, 1, 2] rfl
  have hDc := hD.sub (ws' := [(x0, .inr (11, [.ref (u 0), .ref (u 2), .ref (u 3), .ref (u 4), .ref (u 5), .ref (u 10), .ref (u 11), .ref (u 12), .ref (u 98), .ref (u 124)])), (u 98, .inr (2, [.int 0, .int 0, .int 0, .int 0, .int 0, .int 0, .int 0, .int 0, .int 0, .ref (u 99), .ref (u 107), .ref (u 117), .ref (u 122), .ref (u 123)])), (u 117, .inr (4, [.int 0, .ref (u 118), .ref (u 119), .ref (u 120), .ref (u 121)]))]) [0, 1, 2] (by decide) rfl
  have hFc := va_free (wc := [(x0, .inr (11, [.ref (u 0), .ref (u 2), .ref (u 3), .ref (u 4), .ref (u 5), .ref (u 10), .ref (u 11), .ref (u 12), .ref (u 98), .ref (u 124)])), (u 98, .inr (2, [.int 0, .int 0, .int 0, .int 0, .int 0, .int 0, .int 0, .int 0, .int 0, .ref (u 99), .ref (u 107), .ref (u 117), .ref (u 122), .ref (u 123)])), (u 117, .inr (4, [.int 0, .ref (u 118), .ref (u 119), .ref (u 120), .ref (u 121)]))]) hD hS hA [0, 1, 2] rfl
  refine va_calli (va_runV (As := [.int (xs (1 : Int32).toNatClampNeg)]) (rest := []) ⟨hx, hb, hml, hown, hwd⟩ (c_X11_pawl l dC dI cI cZ cB cJ cM x0 (u 0) (u 2) (u 3) (u 4) (u 5) (u 10) (u 11) (u 12) (u 98) (u 124) (u 99) (u 107) (u 117) (u 122) (u 123) (u 118) (u 119) (u 120) (u 121) (xs (1 : Int32).toNatClampNeg) H.size) (cwV 1 hwd (gV kr19_14 kr19_15 kr19_16 kr1_2 kr19_17) rfl rfl rfl (by decide +kernel) ⟨Nat.le_of_ble_eq_true rfl, Nat.le_of_ble_eq_true rfl⟩) (kPreV hPc hK hDc (ci := 11) (q0 := 0) rfl rfl) rfl rfl hl.1 rfl (lv_room (Nat.le_of_ble_eq_true rfl)) dL_law_605 ⟨Nat.le_of_ble_eq_true rfl, Nat.le_of_ble_eq_true rfl⟩) hS (fun q _ h => hFc q h) hFc (fun r1 u2 t H1 locs ht9 hvm hw hB hz1 hk1 hS => ?_)
  obtain ⟨hP, hD⟩ := va_join (wr := [(y0, .inr (12, [.int 0, .ref (v 1), .ref (v 2), .ref (v 3), .ref (v 4), .int 0, .ref (v 6), .int 0, .int 0, .int 0, .int 0, .int 0, .int 0, .int (-1), .ref (v 14), .ref (v 15), .ref (v 16), .ref (v 17), .ref (v 18), .ref (v 19), .ref (v 20), .int 0, .ref (v 22), .int 0, .ref (v 24), .ref (v 25), .int 0, .ref (v 27), .ref (v 28), .ref (v 29), .ref (v 30), .int 0, .int 0, .int 0, .int 0, .int 0, .ref (v 36), .long 0, .ref (v 38), .ref (v 39), .ref (v 40), .ref (v 41)])), (v 1, .inl (cI, 544, .inl (upd (upd (upd (fun _ => 0) 8 1) 9 1) 17 (-1))))]) (w1 := []) hP hD [0, 1, 2] [3, 4] rfl rfl (by decide) (by decide) hk1 hFc kP0 kD0
  generalize H1 = H at hP hS ⊢
  have hP : va_P (dC, dI) vwCl [(y0, .inr (12, [.int 0, .ref (v 1), .ref (v 2), .ref (v 3), .ref (v 4), .int 0, .ref (v 6), .int 0, .int 0, .int 0, .int 0, .int 0, .int 0, .int (-1), .ref (v 14), .ref (v 15), .ref (v 16), .ref (v 17), .ref (v 18), .ref (v 19), .ref (v 20), .int 0, .ref (v 22), .int 0, .ref (v 24), .ref (v 25), .int 0, .ref (v 27), .ref (v 28), .ref (v 29), .ref (v 30), .int 0, .int 0, .int 0, .int 0, .int 0, .ref (v 36), .long 0, .ref (v 38), .ref (v 39), .ref (v 40), .ref (v 41)])), (v 1, .inl (cI, 544, .inl (upd (upd (upd (fun _ => 0) 8 1) 9 1) 17 (-1))))] H := hP
  have hD : va_D (fun q : Nat => s.heap.size ≤ q) [(y0, .inr (12, [.int 0, .ref (v 1), .ref (v 2), .ref (v 3), .ref (v 4), .int 0, .ref (v 6), .int 0, .int 0, .int 0, .int 0, .int 0, .int 0, .int (-1), .ref (v 14), .ref (v 15), .ref (v 16), .ref (v 17), .ref (v 18), .ref (v 19), .ref (v 20), .int 0, .ref (v 22), .int 0, .ref (v 24), .ref (v 25), .int 0, .ref (v 27), .ref (v 28), .ref (v 29), .ref (v 30), .int 0, .int 0, .int 0, .int 0, .int 0, .ref (v 36), .long 0, .ref (v 38), .ref (v 39), .ref (v 40), .ref (v 41)])), (v 1, .inl (cI, 544, .inl (upd (upd (upd (fun _ => 0) 8 1) 9 1) 17 (-1))))] := hD
  subst hw
  refine lv_aload_n hx hb dL_law_608 rfl (lv_at hl 1 rfl) ?_
  refine lv_aload_n hx hb dL_law_609 rfl (lv_at hl 3 rfl) ?_
  refine lv_iload_n hx hb dL_law_610 rfl (lv_at hl 0 rfl) ?_
  refine lv_iconst (v := 1) hx hb dL_law_611 (by decide) ?_
  refine lv_iadd hx hb dL_law_612 ?_
  refine lv_topi (nm_r (e' := (1)) (by decide +kernel) ?_)
  refine va_sld hx hb hX hbl hbA hS (vin (by decide)) dL_law_613 ?_
  have hPc := hP.sub (ws' := [(y0, .inr (12, [.int 0, .ref (v 1), .ref (v 2), .ref (v 3), .ref (v 4), .int 0, .ref (v 6), .int 0, .int 0, .int 0, .int 0, .int 0, .int 0, .int (-1), .ref (v 14), .ref (v 15), .ref (v 16), .ref (v 17), .ref (v 18), .ref (v 19), .ref (v 20), .int 0, .ref (v 22), .int 0, .ref (v 24), .ref (v 25), .int 0, .ref (v 27), .ref (v 28), .ref (v 29), .ref (v 30), .int 0, .int 0, .int 0, .int 0, .int 0, .ref (v 36), .long 0, .ref (v 38), .ref (v 39), .ref (v 40), .ref (v 41)])), (v 1, .inl (cI, 544, .inl (upd (upd (upd (fun _ => 0) 8 1) 9 1) 17 (-1))))]) [0, 1] rfl
  have hDc := hD.sub (ws' := [(y0, .inr (12, [.int 0, .ref (v 1), .ref (v 2), .ref (v 3), .ref (v 4), .int 0, .ref (v 6), .int 0, .int 0, .int 0, .int 0, .int 0, .int 0, .int (-1), .ref (v 14), .ref (v 15), .ref (v 16), .ref (v 17), .ref (v 18), .ref (v 19), .ref (v 20), .int 0, .ref (v 22), .int 0, .ref (v 24), .ref (v 25), .int 0, .ref (v 27), .ref (v 28), .ref (v 29), .ref (v 30), .int 0, .int 0, .int 0, .int 0, .int 0, .ref (v 36), .long 0, .ref (v 38), .ref (v 39), .ref (v 40), .ref (v 41)])), (v 1, .inl (cI, 544, .inl (upd (upd (upd (fun _ => 0) 8 1) 9 1) 17 (-1))))]) [0, 1] (by decide) rfl
  have hFc := va_free (wc := [(y0, .inr (12, [.int 0, .ref (v 1), .ref (v 2), .ref (v 3), .ref (v 4), .int 0, .ref (v 6), .int 0, .int 0, .int 0, .int 0, .int 0, .int 0, .int (-1), .ref (v 14), .ref (v 15), .ref (v 16), .ref (v 17), .ref (v 18), .ref (v 19), .ref (v 20), .int 0, .ref (v 22), .int 0, .ref (v 24), .ref (v 25), .int 0, .ref (v 27), .ref (v 28), .ref (v 29), .ref (v 30), .int 0, .int 0, .int 0, .int 0, .int 0, .ref (v 36), .long 0, .ref (v 38), .ref (v 39), .ref (v 40), .ref (v 41)])), (v 1, .inl (cI, 544, .inl (upd (upd (upd (fun _ => 0) 8 1) 9 1) 17 (-1))))]) hD hS hA [0, 1] rfl
  refine va_calli (va_runV (As := [.int (xs (1 : Int32).toNatClampNeg)]) (rest := [.int (-2)]) ⟨hx, hb, hml, hown, hwd⟩ (c_X12_pawl l dC dI cI cZ cB cJ cM y0 v (xs (1 : Int32).toNatClampNeg) H.size) (cwV 1 hwd (gV kr19_23 kr20_0 kr20_1 kr1_5 kr20_2) rfl rfl rfl (by decide +kernel) ⟨Nat.le_of_ble_eq_true rfl, Nat.le_of_ble_eq_true rfl⟩) (kPreV hPc hK hDc (ci := 12) (q0 := 0) rfl rfl) rfl rfl hl.1 rfl (lv_room (Nat.le_of_ble_eq_true rfl)) dL_law_614 ⟨Nat.le_of_ble_eq_true rfl, Nat.le_of_ble_eq_true rfl⟩) hS (fun q _ h => hFc q h) hFc (fun r3 u4 t H1 locs ht9 hvm hw hB hz1 hk1 hS => ?_)
  obtain ⟨hP, hD⟩ := va_join (wr := []) (w1 := []) hP hD [0, 1] [] rfl rfl (by decide) (by decide) hk1 hFc kP0 kD0
  generalize H1 = H at hP hS ⊢
  have hP : va_P (dC, dI) vwCl [] H := hP
  have hD : va_D (fun q : Nat => s.heap.size ≤ q) [] := hD
  subst hw
  refine lv_icmp_eq (tgt := 1731) hx hb dL_law_617 (by decide) (fun c5 => ?_) (fun c5 => absurd c5 (by decide))
  exact law_tail C0 hS (lv_sub hl [3, 0] rfl)
set_option maxHeartbeats 4000000 in
set_option maxRecDepth 100000 in
/-- the call of steady on two fresh objects -/
theorem lcase_14 {p : Program} {l : Launch} {e : Env} {s : State} {m : MethodId} {below : List Frame} {meth : Method} {c : Code} {b : Nat} {xs : Nat → Int32} {dC : Nat → ClassId} {dI : Nat → Nat → Nat} {cI cZ cB cJ cM : ClassId} (x0 y0 : Nat) (u v : Nat → Nat) {H : Heap} {locs : List Loc} {ls : Array Slot} (C0 : lw_At p s m meth c b 6 xs) (hK : va_K (dC, dI) vwCl [(cI, .int), (cZ, .boolean), (cB, .byte), (cJ, .long), (cM, .object RX2)] s) (hP : va_P (dC, dI) vwCl [(x0, .inr (11, [.ref (u 0), .ref (u 2), .ref (u 3), .ref (u 4), .ref (u 5), .ref (u 10), .ref (u 11), .ref (u 12), .ref (u 98), .ref (u 124)])), (u 98, .inr (2, [.int 0, .int 0, .int 0, .int 0, .int 0, .int 0, .int 0, .int 0, .int 0, .ref (u 99), .ref (u 107), .ref (u 117), .ref (u 122), .ref (u 123)])), (u 107, .inr (1, [.int 0, .ref (u 108), .ref (u 109), .ref (u 110), .ref (u 111), .ref (u 112), .ref (u 113), .ref (u 114), .ref (u 115), .ref (u 116)])), (y0, .inr (12, [.int 0, .ref (v 1), .ref (v 2), .ref (v 3), .ref (v 4), .int 0, .ref (v 6), .int 0, .int 0, .int 0, .int 0, .int 0, .int 0, .int (-1), .ref (v 14), .ref (v 15), .ref (v 16), .ref (v 17), .ref (v 18), .ref (v 19), .ref (v 20), .int 0, .ref (v 22), .int 0, .ref (v 24), .ref (v 25), .int 0, .ref (v 27), .ref (v 28), .ref (v 29), .ref (v 30), .int 0, .int 0, .int 0, .int 0, .int 0, .ref (v 36), .long 0, .ref (v 38), .ref (v 39), .ref (v 40), .ref (v 41)])), (v 1, .inl (cI, 544, .inl (upd (upd (upd (fun _ => 0) 8 1) 9 1) 17 (-1))))] H) (hD : va_D (fun q : Nat => s.heap.size ≤ q) [(x0, .inr (11, [.ref (u 0), .ref (u 2), .ref (u 3), .ref (u 4), .ref (u 5), .ref (u 10), .ref (u 11), .ref (u 12), .ref (u 98), .ref (u 124)])), (u 98, .inr (2, [.int 0, .int 0, .int 0, .int 0, .int 0, .int 0, .int 0, .int 0, .int 0, .ref (u 99), .ref (u 107), .ref (u 117), .ref (u 122), .ref (u 123)])), (u 107, .inr (1, [.int 0, .ref (u 108), .ref (u 109), .ref (u 110), .ref (u 111), .ref (u 112), .ref (u 113), .ref (u 114), .ref (u 115), .ref (u 116)])), (y0, .inr (12, [.int 0, .ref (v 1), .ref (v 2), .ref (v 3), .ref (v 4), .int 0, .ref (v 6), .int 0, .int 0, .int 0, .int 0, .int 0, .int 0, .int (-1), .ref (v 14), .ref (v 15), .ref (v 16), .ref (v 17), .ref (v 18), .ref (v 19), .ref (v 20), .int 0, .ref (v 22), .int 0, .ref (v 24), .ref (v 25), .int 0, .ref (v 27), .ref (v 28), .ref (v 29), .ref (v 30), .int 0, .int 0, .int 0, .int 0, .int 0, .ref (v 36), .long 0, .ref (v 38), .ref (v 39), .ref (v 40), .ref (v 41)])), (v 1, .inl (cI, 544, .inl (upd (upd (upd (fun _ => 0) 8 1) 9 1) 17 (-1))))]) (hS : va_S (fun q : Nat => s.heap.size ≤ q) s.heap H locs) (hl : lv_has ls 4 [(3, .int 0), (2, .ref y0), (1, .ref x0), (0, .ref b)]) : W p l e room_1 s m #[Value.ref b] below meth c H locs 600000 7302250 (lw_Z below #[Value.ref b] s) (F0 m 622 ls []) := by
  obtain ⟨hx, hb, hr, hml, hown0, hts, hX, hbl, hlocks, hgv⟩ := id C0
  have hb : c.code = cL_law := hb
  have hown : s.vm.findClass RL = some m.cls := hown0
  have hwd : ∀ wd ∈ wsL_law, wd.before #[Value.ref b] s = true := fun w h => hts w (wsL_law_in w h)
  have hA : ∀ q : Nat, s.heap.size ≤ q → (fun q : Nat => s.heap.size ≤ q) q := fun _ h => h
  have hbA : ¬ (fun q : Nat => s.heap.size ≤ q) b := Nat.not_le.mpr hbl
  refine lv_aload_n hx hb dL_law_622 rfl (lv_at hl 2 rfl) ?_
  refine lv_aload_n hx hb dL_law_623 rfl (lv_at hl 3 rfl) ?_
  refine lv_iload_n hx hb dL_law_624 rfl (lv_at hl 0 rfl) ?_
  refine lv_iconst (v := 1) hx hb dL_law_625 (by decide) ?_
  refine lv_iadd hx hb dL_law_626 ?_
  refine lv_topi (nm_r (e' := (1)) (by decide +kernel) ?_)
  refine va_sld hx hb hX hbl hbA hS (vin (by decide)) dL_law_627 ?_
  refine lv_aload_n hx hb dL_law_628 rfl (lv_at hl 3 rfl) ?_
  refine lv_iload_n hx hb dL_law_629 rfl (lv_at hl 0 rfl) ?_
  refine lv_iconst (v := 2) hx hb dL_law_630 (by decide) ?_
  refine lv_iadd hx hb dL_law_631 ?_
  refine lv_topi (nm_r (e' := (2)) (by decide +kernel) ?_)
  refine va_sld hx hb hX hbl hbA hS (vin (by decide)) dL_law_632 ?_
  have hPc := hP.sub (ws' := [(x0, .inr (11, [.ref (u 0), .ref (u 2), .ref (u 3), .ref (u 4), .ref (u 5), .ref (u 10), .ref (u 11), .ref (u 12), .ref (u 98), .ref (u 124)])), (u 98, .inr (2, [.int 0, .int 0, .int 0, .int 0, .int 0, .int 0, .int 0, .int 0, .int 0, .ref (u 99), .ref (u 107), .ref (u 117), .ref (u 122), .ref (u 123)])), (u 107, .inr (1, [.int 0, .ref (u 108), .ref (u 109), .ref (u 110), .ref (u 111), .ref (u 112), .ref (u 113), .ref (u 114), .ref (u 115), .ref (u 116)]))]) [0, 1, 2] rfl
  have hDc := hD.sub (ws' := [(x0, .inr (11, [.ref (u 0), .ref (u 2), .ref (u 3), .ref (u 4), .ref (u 5), .ref (u 10), .ref (u 11), .ref (u 12), .ref (u 98), .ref (u 124)])), (u 98, .inr (2, [.int 0, .int 0, .int 0, .int 0, .int 0, .int 0, .int 0, .int 0, .int 0, .ref (u 99), .ref (u 107), .ref (u 117), .ref (u 122), .ref (u 123)])), (u 107, .inr (1, [.int 0, .ref (u 108), .ref (u 109), .ref (u 110), .ref (u 111), .ref (u 112), .ref (u 113), .ref (u 114), .ref (u 115), .ref (u 116)]))]) [0, 1, 2] (by decide) rfl
  have hFc := va_free (wc := [(x0, .inr (11, [.ref (u 0), .ref (u 2), .ref (u 3), .ref (u 4), .ref (u 5), .ref (u 10), .ref (u 11), .ref (u 12), .ref (u 98), .ref (u 124)])), (u 98, .inr (2, [.int 0, .int 0, .int 0, .int 0, .int 0, .int 0, .int 0, .int 0, .int 0, .ref (u 99), .ref (u 107), .ref (u 117), .ref (u 122), .ref (u 123)])), (u 107, .inr (1, [.int 0, .ref (u 108), .ref (u 109), .ref (u 110), .ref (u 111), .ref (u 112), .ref (u 113), .ref (u 114), .ref (u 115), .ref (u 116)]))]) hD hS hA [0, 1, 2] rfl
  refine va_calli (va_runV (As := [.int (xs (1 : Int32).toNatClampNeg), .int (xs (2 : Int32).toNatClampNeg)]) (rest := []) ⟨hx, hb, hml, hown, hwd⟩ (c_X11_steady l dC dI cI cZ cB cJ cM x0 (u 0) (u 2) (u 3) (u 4) (u 5) (u 10) (u 11) (u 12) (u 98) (u 124) (u 99) (u 107) (u 117) (u 122) (u 123) (u 108) (u 109) (u 110) (u 111) (u 112) (u 113) (u 114) (u 115) (u 116) (xs (1 : Int32).toNatClampNeg) (xs (2 : Int32).toNatClampNeg) H.size) (cwV 2 hwd (gV kr20_7 kr20_8 kr20_9 kr1_2 kr20_10) rfl rfl rfl (by decide +kernel) ⟨Nat.le_of_ble_eq_true rfl, Nat.le_of_ble_eq_true rfl⟩) (kPreV hPc hK hDc (ci := 11) (q0 := 0) rfl rfl) rfl rfl hl.1 rfl (lv_room (Nat.le_of_ble_eq_true rfl)) dL_law_633 ⟨Nat.le_of_ble_eq_true rfl, Nat.le_of_ble_eq_true rfl⟩) hS (fun q _ h => hFc q h) hFc (fun r1 u2 t H1 locs ht9 hvm hw hB hz1 hk1 hS => ?_)
  obtain ⟨hP, hD⟩ := va_join (wr := [(y0, .inr (12, [.int 0, .ref (v 1), .ref (v 2), .ref (v 3), .ref (v 4), .int 0, .ref (v 6), .int 0, .int 0, .int 0, .int 0, .int 0, .int 0, .int (-1), .ref (v 14), .ref (v 15), .ref (v 16), .ref (v 17), .ref (v 18), .ref (v 19), .ref (v 20), .int 0, .ref (v 22), .int 0, .ref (v 24), .ref (v 25), .int 0, .ref (v 27), .ref (v 28), .ref (v 29), .ref (v 30), .int 0, .int 0, .int 0, .int 0, .int 0, .ref (v 36), .long 0, .ref (v 38), .ref (v 39), .ref (v 40), .ref (v 41)])), (v 1, .inl (cI, 544, .inl (upd (upd (upd (fun _ => 0) 8 1) 9 1) 17 (-1))))]) (w1 := []) hP hD [0, 1, 2] [3, 4] rfl rfl (by decide) (by decide) hk1 hFc kP0 kD0
  generalize H1 = H at hP hS ⊢
  have hP : va_P (dC, dI) vwCl [(y0, .inr (12, [.int 0, .ref (v 1), .ref (v 2), .ref (v 3), .ref (v 4), .int 0, .ref (v 6), .int 0, .int 0, .int 0, .int 0, .int 0, .int 0, .int (-1), .ref (v 14), .ref (v 15), .ref (v 16), .ref (v 17), .ref (v 18), .ref (v 19), .ref (v 20), .int 0, .ref (v 22), .int 0, .ref (v 24), .ref (v 25), .int 0, .ref (v 27), .ref (v 28), .ref (v 29), .ref (v 30), .int 0, .int 0, .int 0, .int 0, .int 0, .ref (v 36), .long 0, .ref (v 38), .ref (v 39), .ref (v 40), .ref (v 41)])), (v 1, .inl (cI, 544, .inl (upd (upd (upd (fun _ => 0) 8 1) 9 1) 17 (-1))))] H := hP
  have hD : va_D (fun q : Nat => s.heap.size ≤ q) [(y0, .inr (12, [.int 0, .ref (v 1), .ref (v 2), .ref (v 3), .ref (v 4), .int 0, .ref (v 6), .int 0, .int 0, .int 0, .int 0, .int 0, .int 0, .int (-1), .ref (v 14), .ref (v 15), .ref (v 16), .ref (v 17), .ref (v 18), .ref (v 19), .ref (v 20), .int 0, .ref (v 22), .int 0, .ref (v 24), .ref (v 25), .int 0, .ref (v 27), .ref (v 28), .ref (v 29), .ref (v 30), .int 0, .int 0, .int 0, .int 0, .int 0, .ref (v 36), .long 0, .ref (v 38), .ref (v 39), .ref (v 40), .ref (v 41)])), (v 1, .inl (cI, 544, .inl (upd (upd (upd (fun _ => 0) 8 1) 9 1) 17 (-1))))] := hD
  subst hw
  refine lv_aload_n hx hb dL_law_636 rfl (lv_at hl 1 rfl) ?_
  refine lv_aload_n hx hb dL_law_637 rfl (lv_at hl 3 rfl) ?_
  refine lv_iload_n hx hb dL_law_638 rfl (lv_at hl 0 rfl) ?_
  refine lv_iconst (v := 1) hx hb dL_law_639 (by decide) ?_
  refine lv_iadd hx hb dL_law_640 ?_
  refine lv_topi (nm_r (e' := (1)) (by decide +kernel) ?_)
  refine va_sld hx hb hX hbl hbA hS (vin (by decide)) dL_law_641 ?_
  refine lv_aload_n hx hb dL_law_642 rfl (lv_at hl 3 rfl) ?_
  refine lv_iload_n hx hb dL_law_643 rfl (lv_at hl 0 rfl) ?_
  refine lv_iconst (v := 2) hx hb dL_law_644 (by decide) ?_
  refine lv_iadd hx hb dL_law_645 ?_
  refine lv_topi (nm_r (e' := (2)) (by decide +kernel) ?_)
  refine va_sld hx hb hX hbl hbA hS (vin (by decide)) dL_law_646 ?_
  have hPc := hP.sub (ws' := [(y0, .inr (12, [.int 0, .ref (v 1), .ref (v 2), .ref (v 3), .ref (v 4), .int 0, .ref (v 6), .int 0, .int 0, .int 0, .int 0, .int 0, .int 0, .int (-1), .ref (v 14), .ref (v 15), .ref (v 16), .ref (v 17), .ref (v 18), .ref (v 19), .ref (v 20), .int 0, .ref (v 22), .int 0, .ref (v 24), .ref (v 25), .int 0, .ref (v 27), .ref (v 28), .ref (v 29), .ref (v 30), .int 0, .int 0, .int 0, .int 0, .int 0, .ref (v 36), .long 0, .ref (v 38), .ref (v 39), .ref (v 40), .ref (v 41)])), (v 1, .inl (cI, 544, .inl (upd (upd (upd (fun _ => 0) 8 1) 9 1) 17 (-1))))]) [0, 1] rfl
  have hDc := hD.sub (ws' := [(y0, .inr (12, [.int 0, .ref (v 1), .ref (v 2), .ref (v 3), .ref (v 4), .int 0, .ref (v 6), .int 0, .int 0, .int 0, .int 0, .int 0, .int 0, .int (-1), .ref (v 14), .ref (v 15), .ref (v 16), .ref (v 17), .ref (v 18), .ref (v 19), .ref (v 20), .int 0, .ref (v 22), .int 0, .ref (v 24), .ref (v 25), .int 0, .ref (v 27), .ref (v 28), .ref (v 29), .ref (v 30), .int 0, .int 0, .int 0, .int 0, .int 0, .ref (v 36), .long 0, .ref (v 38), .ref (v 39), .ref (v 40), .ref (v 41)])), (v 1, .inl (cI, 544, .inl (upd (upd (upd (fun _ => 0) 8 1) 9 1) 17 (-1))))]) [0, 1] (by decide) rfl
  have hFc := va_free (wc := [(y0, .inr (12, [.int 0, .ref (v 1), .ref (v 2), .ref (v 3), .ref (v 4), .int 0, .ref (v 6), .int 0, .int 0, .int 0, .int 0, .int 0, .int 0, .int (-1), .ref (v 14), .ref (v 15), .ref (v 16), .ref (v 17), .ref (v 18), .ref (v 19), .ref (v 20), .int 0, .ref (v 22), .int 0, .ref (v 24), .ref (v 25), .int 0, .ref (v 27), .ref (v 28), .ref (v 29), .ref (v 30), .int 0, .int 0, .int 0, .int 0, .int 0, .ref (v 36), .long 0, .ref (v 38), .ref (v 39), .ref (v 40), .ref (v 41)])), (v 1, .inl (cI, 544, .inl (upd (upd (upd (fun _ => 0) 8 1) 9 1) 17 (-1))))]) hD hS hA [0, 1] rfl
  refine va_calli (va_runV (As := [.int (xs (1 : Int32).toNatClampNeg), .int (xs (2 : Int32).toNatClampNeg)]) (rest := [.int (-2)]) ⟨hx, hb, hml, hown, hwd⟩ (c_X12_steady l dC dI cI cZ cB cJ cM y0 v (xs (1 : Int32).toNatClampNeg) (xs (2 : Int32).toNatClampNeg) H.size) (cwV 2 hwd (gV kr20_11 kr20_12 kr20_13 kr1_5 kr20_14) rfl rfl rfl (by decide +kernel) ⟨Nat.le_of_ble_eq_true rfl, Nat.le_of_ble_eq_true rfl⟩) (kPreV hPc hK hDc (ci := 12) (q0 := 0) rfl rfl) rfl rfl hl.1 rfl (lv_room (Nat.le_of_ble_eq_true rfl)) dL_law_647 ⟨Nat.le_of_ble_eq_true rfl, Nat.le_of_ble_eq_true rfl⟩) hS (fun q _ h => hFc q h) hFc (fun r3 u4 t H1 locs ht9 hvm hw hB hz1 hk1 hS => ?_)
  obtain ⟨hP, hD⟩ := va_join (wr := []) (w1 := []) hP hD [0, 1] [] rfl rfl (by decide) (by decide) hk1 hFc kP0 kD0
  generalize H1 = H at hP hS ⊢
  have hP : va_P (dC, dI) vwCl [] H := hP
  have hD : va_D (fun q : Nat => s.heap.size ≤ q) [] := hD
  subst hw
  refine lv_icmp_eq (tgt := 1731) hx hb dL_law_650 (by decide) (fun c5 => ?_) (fun c5 => absurd c5 (by decide))
  exact law_tail C0 hS (lv_sub hl [3, 0] rfl)
set_option maxHeartbeats 4000000 in
set_option maxRecDepth 100000 in
/-- the call of leaves on two fresh objects -/
theorem lcase_15 {p : Program} {l : Launch} {e : Env} {s : State} {m : MethodId} {below : List Frame} {meth : Method} {c : Code} {b : Nat} {xs : Nat → Int32} {dC : Nat → ClassId} {dI : Nat → Nat → Nat} {cI cZ cB cJ cM : ClassId} (x0 y0 : Nat) (u v : Nat → Nat) {H : Heap} {locs : List Loc} {ls : Array Slot} (C0 : lw_At p s m meth c b 6 xs) (hK : va_K (dC, dI) vwCl [(cI, .int), (cZ, .boolean), (cB, .byte), (cJ, .long), (cM, .object RX2)] s) (hP : va_P (dC, dI) vwCl [(x0, .inr (11, [.ref (u 0), .ref (u 2), .ref (u 3), .ref (u 4), .ref (u 5), .ref (u 10), .ref (u 11), .ref (u 12), .ref (u 98), .ref (u 124)])), (u 98, .inr (2, [.int 0, .int 0, .int 0, .int 0, .int 0, .int 0, .int 0, .int 0, .int 0, .ref (u 99), .ref (u 107), .ref (u 117), .ref (u 122), .ref (u 123)])), (u 107, .inr (1, [.int 0, .ref (u 108), .ref (u 109), .ref (u 110), .ref (u 111), .ref (u 112), .ref (u 113), .ref (u 114), .ref (u 115), .ref (u 116)])), (y0, .inr (12, [.int 0, .ref (v 1), .ref (v 2), .ref (v 3), .ref (v 4), .int 0, .ref (v 6), .int 0, .int 0, .int 0, .int 0, .int 0, .int 0, .int (-1), .ref (v 14), .ref (v 15), .ref (v 16), .ref (v 17), .ref (v 18), .ref (v 19), .ref (v 20), .int 0, .ref (v 22), .int 0, .ref (v 24), .ref (v 25), .int 0, .ref (v 27), .ref (v 28), .ref (v 29), .ref (v 30), .int 0, .int 0, .int 0, .int 0, .int 0, .ref (v 36), .long 0, .ref (v 38), .ref (v 39), .ref (v 40), .ref (v 41)])), (v 1, .inl (cI, 544, .inl (upd (upd (upd (fun _ => 0) 8 1) 9 1) 17 (-1))))] H) (hD : va_D (fun q : Nat => s.heap.size ≤ q) [(x0, .inr (11, [.ref (u 0), .ref (u 2), .ref (u 3), .ref (u 4), .ref (u 5), .ref (u 10), .ref (u 11), .ref (u 12), .ref (u 98), .ref (u 124)])), (u 98, .inr (2, [.int 0, .int 0, .int 0, .int 0, .int 0, .int 0, .int 0, .int 0, .int 0, .ref (u 99), .ref (u 107), .ref (u 117), .ref (u 122), .ref (u 123)])), (u 107, .inr (1, [.int 0, .ref (u 108), .ref (u 109), .ref (u 110), .ref (u 111), .ref (u 112), .ref (u 113), .ref (u 114), .ref (u 115), .ref (u 116)])), (y0, .inr (12, [.int 0, .ref (v 1), .ref (v 2), .ref (v 3), .ref (v 4), .int 0, .ref (v 6), .int 0, .int 0, .int 0, .int 0, .int 0, .int 0, .int (-1), .ref (v 14), .ref (v 15), .ref (v 16), .ref (v 17), .ref (v 18), .ref (v 19), .ref (v 20), .int 0, .ref (v 22), .int 0, .ref (v 24), .ref (v 25), .int 0, .ref (v 27), .ref (v 28), .ref (v 29), .ref (v 30), .int 0, .int 0, .int 0, .int 0, .int 0, .ref (v 36), .long 0, .ref (v 38), .ref (v 39), .ref (v 40), .ref (v 41)])), (v 1, .inl (cI, 544, .inl (upd (upd (upd (fun _ => 0) 8 1) 9 1) 17 (-1))))]) (hS : va_S (fun q : Nat => s.heap.size ≤ q) s.heap H locs) (hl : lv_has ls 4 [(3, .int 0), (2, .ref y0), (1, .ref x0), (0, .ref b)]) : W p l e room_1 s m #[Value.ref b] below meth c H locs 600000 7302250 (lw_Z below #[Value.ref b] s) (F0 m 655 ls []) := by
  obtain ⟨hx, hb, hr, hml, hown0, hts, hX, hbl, hlocks, hgv⟩ := id C0
  have hb : c.code = cL_law := hb
  have hown : s.vm.findClass RL = some m.cls := hown0
  have hwd : ∀ wd ∈ wsL_law, wd.before #[Value.ref b] s = true := fun w h => hts w (wsL_law_in w h)
  have hA : ∀ q : Nat, s.heap.size ≤ q → (fun q : Nat => s.heap.size ≤ q) q := fun _ h => h
  have hbA : ¬ (fun q : Nat => s.heap.size ≤ q) b := Nat.not_le.mpr hbl
  refine lv_aload_n hx hb dL_law_655 rfl (lv_at hl 2 rfl) ?_
  refine lv_aload_n hx hb dL_law_656 rfl (lv_at hl 3 rfl) ?_
  refine lv_iload_n hx hb dL_law_657 rfl (lv_at hl 0 rfl) ?_
  refine lv_iconst (v := 1) hx hb dL_law_658 (by decide) ?_
  refine lv_iadd hx hb dL_law_659 ?_
  refine lv_topi (nm_r (e' := (1)) (by decide +kernel) ?_)
  refine va_sld hx hb hX hbl hbA hS (vin (by decide)) dL_law_660 ?_
  refine lv_aload_n hx hb dL_law_661 rfl (lv_at hl 3 rfl) ?_
  refine lv_iload_n hx hb dL_law_662 rfl (lv_at hl 0 rfl) ?_
  refine lv_iconst (v := 2) hx hb dL_law_663 (by decide) ?_
  refine lv_iadd hx hb dL_law_664 ?_
  refine lv_topi (nm_r (e' := (2)) (by decide +kernel) ?_)
  refine va_sld hx hb hX hbl hbA hS (vin (by decide)) dL_law_665 ?_
  have hPc := hP.sub (ws' := [(x0, .inr (11, [.ref (u 0), .ref (u 2), .ref (u 3), .ref (u 4), .ref (u 5), .ref (u 10), .ref (u 11), .ref (u 12), .ref (u 98), .ref (u 124)])), (u 98, .inr (2, [.int 0, .int 0, .int 0, .int 0, .int 0, .int 0, .int 0, .int 0, .int 0, .ref (u 99), .ref (u 107), .ref (u 117), .ref (u 122), .ref (u 123)])), (u 107, .inr (1, [.int 0, .ref (u 108), .ref (u 109), .ref (u 110), .ref (u 111), .ref (u 112), .ref (u 113), .ref (u 114), .ref (u 115), .ref (u 116)]))]) [0, 1, 2] rfl
  have hDc := hD.sub (ws' := [(x0, .inr (11, [.ref (u 0), .ref (u 2), .ref (u 3), .ref (u 4), .ref (u 5), .ref (u 10), .ref (u 11), .ref (u 12), .ref (u 98), .ref (u 124)])), (u 98, .inr (2, [.int 0, .int 0, .int 0, .int 0, .int 0, .int 0, .int 0, .int 0, .int 0, .ref (u 99), .ref (u 107), .ref (u 117), .ref (u 122), .ref (u 123)])), (u 107, .inr (1, [.int 0, .ref (u 108), .ref (u 109), .ref (u 110), .ref (u 111), .ref (u 112), .ref (u 113), .ref (u 114), .ref (u 115), .ref (u 116)]))]) [0, 1, 2] (by decide) rfl
  have hFc := va_free (wc := [(x0, .inr (11, [.ref (u 0), .ref (u 2), .ref (u 3), .ref (u 4), .ref (u 5), .ref (u 10), .ref (u 11), .ref (u 12), .ref (u 98), .ref (u 124)])), (u 98, .inr (2, [.int 0, .int 0, .int 0, .int 0, .int 0, .int 0, .int 0, .int 0, .int 0, .ref (u 99), .ref (u 107), .ref (u 117), .ref (u 122), .ref (u 123)])), (u 107, .inr (1, [.int 0, .ref (u 108), .ref (u 109), .ref (u 110), .ref (u 111), .ref (u 112), .ref (u 113), .ref (u 114), .ref (u 115), .ref (u 116)]))]) hD hS hA [0, 1, 2] rfl
  refine va_calli (va_runV (As := [.int (xs (1 : Int32).toNatClampNeg), .int (xs (2 : Int32).toNatClampNeg)]) (rest := []) ⟨hx, hb, hml, hown, hwd⟩ (c_X11_leaves l dC dI cI cZ cB cJ cM x0 (u 0) (u 2) (u 3) (u 4) (u 5) (u 10) (u 11) (u 12) (u 98) (u 124) (u 99) (u 107) (u 117) (u 122) (u 123) (u 108) (u 109) (u 110) (u 111) (u 112) (u 113) (u 114) (u 115) (u 116) (xs (1 : Int32).toNatClampNeg) (xs (2 : Int32).toNatClampNeg) H.size) (cwV 2 hwd (gV kr20_15 kr20_16 kr20_17 kr1_2 kr20_18) rfl rfl rfl (by decide +kernel) ⟨Nat.le_of_ble_eq_true rfl, Nat.le_of_ble_eq_true rfl⟩) (kPreV hPc hK hDc (ci := 11) (q0 := 0) rfl rfl) rfl rfl hl.1 rfl (lv_room (Nat.le_of_ble_eq_true rfl)) dL_law_666 ⟨Nat.le_of_ble_eq_true rfl, Nat.le_of_ble_eq_true rfl⟩) hS (fun q _ h => hFc q h) hFc (fun r1 u2 t H1 locs ht9 hvm hw hB hz1 hk1 hS => ?_)
  obtain ⟨hP, hD⟩ := va_join (wr := [(y0, .inr (12, [.int 0, .ref (v 1), .ref (v 2), .ref (v 3), .ref (v 4), .int 0, .ref (v 6), .int 0, .int 0, .int 0, .int 0, .int 0, .int 0, .int (-1), .ref (v 14), .ref (v 15), .ref (v 16), .ref (v 17), .ref (v 18), .ref (v 19), .ref (v 20), .int 0, .ref (v 22), .int 0, .ref (v 24), .ref (v 25), .int 0, .ref (v 27), .ref (v 28), .ref (v 29), .ref (v 30), .int 0, .int 0, .int 0, .int 0, .int 0, .ref (v 36), .long 0, .ref (v 38), .ref (v 39), .ref (v 40), .ref (v 41)])), (v 1, .inl (cI, 544, .inl (upd (upd (upd (fun _ => 0) 8 1) 9 1) 17 (-1))))]) (w1 := []) hP hD [0, 1, 2] [3, 4] rfl rfl (by decide) (by decide) hk1 hFc kP0 kD0
  generalize H1 = H at hP hS ⊢
  have hP : va_P (dC, dI) vwCl [(y0, .inr (12, [.int 0, .ref (v 1), .ref (v 2), .ref (v 3), .ref (v 4), .int 0, .ref (v 6), .int 0, .int 0, .int 0, .int 0, .int 0, .int 0, .int (-1), .ref (v 14), .ref (v 15), .ref (v 16), .ref (v 17), .ref (v 18), .ref (v 19), .ref (v 20), .int 0, .ref (v 22), .int 0, .ref (v 24), .ref (v 25), .int 0, .ref (v 27), .ref (v 28), .ref (v 29), .ref (v 30), .int 0, .int 0, .int 0, .int 0, .int 0, .ref (v 36), .long 0, .ref (v 38), .ref (v 39), .ref (v 40), .ref (v 41)])), (v 1, .inl (cI, 544, .inl (upd (upd (upd (fun _ => 0) 8 1) 9 1) 17 (-1))))] H := hP
  have hD : va_D (fun q : Nat => s.heap.size ≤ q) [(y0, .inr (12, [.int 0, .ref (v 1), .ref (v 2), .ref (v 3), .ref (v 4), .int 0, .ref (v 6), .int 0, .int 0, .int 0, .int 0, .int 0, .int 0, .int (-1), .ref (v 14), .ref (v 15), .ref (v 16), .ref (v 17), .ref (v 18), .ref (v 19), .ref (v 20), .int 0, .ref (v 22), .int 0, .ref (v 24), .ref (v 25), .int 0, .ref (v 27), .ref (v 28), .ref (v 29), .ref (v 30), .int 0, .int 0, .int 0, .int 0, .int 0, .ref (v 36), .long 0, .ref (v 38), .ref (v 39), .ref (v 40), .ref (v 41)])), (v 1, .inl (cI, 544, .inl (upd (upd (upd (fun _ => 0) 8 1) 9 1) 17 (-1))))] := hD
  subst hw
  refine lv_aload_n hx hb dL_law_669 rfl (lv_at hl 1 rfl) ?_
  refine lv_aload_n hx hb dL_law_670 rfl (lv_at hl 3 rfl) ?_
  refine lv_iload_n hx hb dL_law_671 rfl (lv_at hl 0 rfl) ?_
  refine lv_iconst (v := 1) hx hb dL_law_672 (by decide) ?_
  refine lv_iadd hx hb dL_law_673 ?_
  refine lv_topi (nm_r (e' := (1)) (by decide +kernel) ?_)
  refine va_sld hx hb hX hbl hbA hS (vin (by decide)) dL_law_674 ?_
  refine lv_aload_n hx hb dL_law_675 rfl (lv_at hl 3 rfl) ?_
  refine lv_iload_n hx hb dL_law_676 rfl (lv_at hl 0 rfl) ?_
  refine lv_iconst (v := 2) hx hb dL_law_677 (by decide) ?_
  refine lv_iadd hx hb dL_law_678 ?_
  refine lv_topi (nm_r (e' := (2)) (by decide +kernel) ?_)
  refine va_sld hx hb hX hbl hbA hS (vin (by decide)) dL_law_679 ?_
  have hPc := hP.sub (ws' := [(y0, .inr (12, [.int 0, .ref (v 1), .ref (v 2), .ref (v 3), .ref (v 4), .int 0, .ref (v 6), .int 0, .int 0, .int 0, .int 0, .int 0, .int 0, .int (-1), .ref (v 14), .ref (v 15), .ref (v 16), .ref (v 17), .ref (v 18), .ref (v 19), .ref (v 20), .int 0, .ref (v 22), .int 0, .ref (v 24), .ref (v 25), .int 0, .ref (v 27), .ref (v 28), .ref (v 29), .ref (v 30), .int 0, .int 0, .int 0, .int 0, .int 0, .ref (v 36), .long 0, .ref (v 38), .ref (v 39), .ref (v 40), .ref (v 41)])), (v 1, .inl (cI, 544, .inl (upd (upd (upd (fun _ => 0) 8 1) 9 1) 17 (-1))))]) [0, 1] rfl
  have hDc := hD.sub (ws' := [(y0, .inr (12, [.int 0, .ref (v 1), .ref (v 2), .ref (v 3), .ref (v 4), .int 0, .ref (v 6), .int 0, .int 0, .int 0, .int 0, .int 0, .int 0, .int (-1), .ref (v 14), .ref (v 15), .ref (v 16), .ref (v 17), .ref (v 18), .ref (v 19), .ref (v 20), .int 0, .ref (v 22), .int 0, .ref (v 24), .ref (v 25), .int 0, .ref (v 27), .ref (v 28), .ref (v 29), .ref (v 30), .int 0, .int 0, .int 0, .int 0, .int 0, .ref (v 36), .long 0, .ref (v 38), .ref (v 39), .ref (v 40), .ref (v 41)])), (v 1, .inl (cI, 544, .inl (upd (upd (upd (fun _ => 0) 8 1) 9 1) 17 (-1))))]) [0, 1] (by decide) rfl
  have hFc := va_free (wc := [(y0, .inr (12, [.int 0, .ref (v 1), .ref (v 2), .ref (v 3), .ref (v 4), .int 0, .ref (v 6), .int 0, .int 0, .int 0, .int 0, .int 0, .int 0, .int (-1), .ref (v 14), .ref (v 15), .ref (v 16), .ref (v 17), .ref (v 18), .ref (v 19), .ref (v 20), .int 0, .ref (v 22), .int 0, .ref (v 24), .ref (v 25), .int 0, .ref (v 27), .ref (v 28), .ref (v 29), .ref (v 30), .int 0, .int 0, .int 0, .int 0, .int 0, .ref (v 36), .long 0, .ref (v 38), .ref (v 39), .ref (v 40), .ref (v 41)])), (v 1, .inl (cI, 544, .inl (upd (upd (upd (fun _ => 0) 8 1) 9 1) 17 (-1))))]) hD hS hA [0, 1] rfl
  refine va_calli (va_runV (As := [.int (xs (1 : Int32).toNatClampNeg), .int (xs (2 : Int32).toNatClampNeg)]) (rest := [.int (-2)]) ⟨hx, hb, hml, hown, hwd⟩ (c_X12_leaves l dC dI cI cZ cB cJ cM y0 v (xs (1 : Int32).toNatClampNeg) (xs (2 : Int32).toNatClampNeg) H.size) (cwV 2 hwd (gV kr20_19 kr20_20 kr20_21 kr1_5 kr20_22) rfl rfl rfl (by decide +kernel) ⟨Nat.le_of_ble_eq_true rfl, Nat.le_of_ble_eq_true rfl⟩) (kPreV hPc hK hDc (ci := 12) (q0 := 0) rfl rfl) rfl rfl hl.1 rfl (lv_room (Nat.le_of_ble_eq_true rfl)) dL_law_680 ⟨Nat.le_of_ble_eq_true rfl, Nat.le_of_ble_eq_true rfl⟩) hS (fun q _ h => hFc q h) hFc (fun r3 u4 t H1 locs ht9 hvm hw hB hz1 hk1 hS => ?_)
  obtain ⟨hP, hD⟩ := va_join (wr := []) (w1 := []) hP hD [0, 1] [] rfl rfl (by decide) (by decide) hk1 hFc kP0 kD0
  generalize H1 = H at hP hS ⊢
  have hP : va_P (dC, dI) vwCl [] H := hP
  have hD : va_D (fun q : Nat => s.heap.size ≤ q) [] := hD
  subst hw
  refine lv_icmp_eq (tgt := 1731) hx hb dL_law_683 (by decide) (fun c5 => ?_) (fun c5 => absurd c5 (by decide))
  exact law_tail C0 hS (lv_sub hl [3, 0] rfl)
set_option maxHeartbeats 4000000 in
set_option maxRecDepth 100000 in
/-- the call of spring on two fresh objects -/
theorem lcase_16 {p : Program} {l : Launch} {e : Env} {s : State} {m : MethodId} {below : List Frame} {meth : Method} {c : Code} {b : Nat} {xs : Nat → Int32} {dC : Nat → ClassId} {dI : Nat → Nat → Nat} {cI cZ cB cJ cM : ClassId} (x0 y0 : Nat) (u v : Nat → Nat) {H : Heap} {locs : List Loc} {ls : Array Slot} (C0 : lw_At p s m meth c b 6 xs) (hK : va_K (dC, dI) vwCl [(cI, .int), (cZ, .boolean), (cB, .byte), (cJ, .long), (cM, .object RX2)] s) (hP : va_P (dC, dI) vwCl [(x0, .inr (11, [.ref (u 0), .ref (u 2), .ref (u 3), .ref (u 4), .ref (u 5), .ref (u 10), .ref (u 11), .ref (u 12), .ref (u 98), .ref (u 124)])), (u 98, .inr (2, [.int 0, .int 0, .int 0, .int 0, .int 0, .int 0, .int 0, .int 0, .int 0, .ref (u 99), .ref (u 107), .ref (u 117), .ref (u 122), .ref (u 123)])), (u 107, .inr (1, [.int 0, .ref (u 108), .ref (u 109), .ref (u 110), .ref (u 111), .ref (u 112), .ref (u 113), .ref (u 114), .ref (u 115), .ref (u 116)])), (y0, .inr (12, [.int 0, .ref (v 1), .ref (v 2), .ref (v 3), .ref (v 4), .int 0, .ref (v 6), .int 0, .int 0, .int 0, .int 0, .int 0, .int 0, .int (-1), .ref (v 14), .ref (v 15), .ref (v 16), .ref (v 17), .ref (v 18), .ref (v 19), .ref (v 20), .int 0, .ref (v 22), .int 0, .ref (v 24), .ref (v 25), .int 0, .ref (v 27), .ref (v 28), .ref (v 29), .ref (v 30), .int 0, .int 0, .int 0, .int 0, .int 0, .ref (v 36), .long 0, .ref (v 38), .ref (v 39), .ref (v 40), .ref (v 41)])), (v 1, .inl (cI, 544, .inl (upd (upd (upd (fun _ => 0) 8 1) 9 1) 17 (-1))))] H) (hD : va_D (fun q : Nat => s.heap.size ≤ q) [(x0, .inr (11, [.ref (u 0), .ref (u 2), .ref (u 3), .ref (u 4), .ref (u 5), .ref (u 10), .ref (u 11), .ref (u 12), .ref (u 98), .ref (u 124)])), (u 98, .inr (2, [.int 0, .int 0, .int 0, .int 0, .int 0, .int 0, .int 0, .int 0, .int 0, .ref (u 99), .ref (u 107), .ref (u 117), .ref (u 122), .ref (u 123)])), (u 107, .inr (1, [.int 0, .ref (u 108), .ref (u 109), .ref (u 110), .ref (u 111), .ref (u 112), .ref (u 113), .ref (u 114), .ref (u 115), .ref (u 116)])), (y0, .inr (12, [.int 0, .ref (v 1), .ref (v 2), .ref (v 3), .ref (v 4), .int 0, .ref (v 6), .int 0, .int 0, .int 0, .int 0, .int 0, .int 0, .int (-1), .ref (v 14), .ref (v 15), .ref (v 16), .ref (v 17), .ref (v 18), .ref (v 19), .ref (v 20), .int 0, .ref (v 22), .int 0, .ref (v 24), .ref (v 25), .int 0, .ref (v 27), .ref (v 28), .ref (v 29), .ref (v 30), .int 0, .int 0, .int 0, .int 0, .int 0, .ref (v 36), .long 0, .ref (v 38), .ref (v 39), .ref (v 40), .ref (v 41)])), (v 1, .inl (cI, 544, .inl (upd (upd (upd (fun _ => 0) 8 1) 9 1) 17 (-1))))]) (hS : va_S (fun q : Nat => s.heap.size ≤ q) s.heap H locs) (hl : lv_has ls 4 [(3, .int 0), (2, .ref y0), (1, .ref x0), (0, .ref b)]) : W p l e room_1 s m #[Value.ref b] below meth c H locs 600000 7302250 (lw_Z below #[Value.ref b] s) (F0 m 688 ls []) := by
  obtain ⟨hx, hb, hr, hml, hown0, hts, hX, hbl, hlocks, hgv⟩ := id C0
  have hb : c.code = cL_law := hb
  have hown : s.vm.findClass RL = some m.cls := hown0
  have hwd : ∀ wd ∈ wsL_law, wd.before #[Value.ref b] s = true := fun w h => hts w (wsL_law_in w h)
  have hA : ∀ q : Nat, s.heap.size ≤ q → (fun q : Nat => s.heap.size ≤ q) q := fun _ h => h
  have hbA : ¬ (fun q : Nat => s.heap.size ≤ q) b := Nat.not_le.mpr hbl
  refine lv_aload_n hx hb dL_law_688 rfl (lv_at hl 2 rfl) ?_
  refine lv_aload_n hx hb dL_law_689 rfl (lv_at hl 3 rfl) ?_
  refine lv_iload_n hx hb dL_law_690 rfl (lv_at hl 0 rfl) ?_
  refine lv_iconst (v := 1) hx hb dL_law_691 (by decide) ?_
  refine lv_iadd hx hb dL_law_692 ?_
  refine lv_topi (nm_r (e' := (1)) (by decide +kernel) ?_)
  refine va_sld hx hb hX hbl hbA hS (vin (by decide)) dL_law_693 ?_
  have hPc := hP.sub (ws' := [(x0, .inr (11, [.ref (u 0), .ref (u 2), .ref (u 3), .ref (u 4), .ref (u 5), .ref (u 10), .ref (u 11), .ref (u 12), .ref (u 98), .ref (u 124)])), (u 98, .inr (2, [.int 0, .int 0, .int 0, .int 0, .int 0, .int 0, .int 0, .int 0, .int 0, .ref (u 99), .ref (u 107), .ref (u 117), .ref (u 122), .ref (u 123)])), (u 107, .inr (1, [.int 0, .ref (u 108), .ref (u 109), .ref (u 110), .ref (u 111), .ref (u 112), .ref (u 113), .ref (u 114), .ref (u 115), .ref (u 116)]))]) [0, 1, 2] rfl
  have hDc := hD.sub (ws' := [(x0, .inr (11, [.ref (u 0), .ref (u 2), .ref (u 3), .ref (u 4), .ref (u 5), .ref (u 10), .ref (u 11), .ref (u 12), .ref (u 98), .ref (u 124)])), (u 98, .inr (2, [.int 0, .int 0, .int 0, .int 0, .int 0, .int 0, .int 0, .int 0, .int 0, .ref (u 99), .ref (u 107), .ref (u 117), .ref (u 122), .ref (u 123)])), (u 107, .inr (1, [.int 0, .ref (u 108), .ref (u 109), .ref (u 110), .ref (u 111), .ref (u 112), .ref (u 113), .ref (u 114), .ref (u 115), .ref (u 116)]))]) [0, 1, 2] (by decide) rfl
  have hFc := va_free (wc := [(x0, .inr (11, [.ref (u 0), .ref (u 2), .ref (u 3), .ref (u 4), .ref (u 5), .ref (u 10), .ref (u 11), .ref (u 12), .ref (u 98), .ref (u 124)])), (u 98, .inr (2, [.int 0, .int 0, .int 0, .int 0, .int 0, .int 0, .int 0, .int 0, .int 0, .ref (u 99), .ref (u 107), .ref (u 117), .ref (u 122), .ref (u 123)])), (u 107, .inr (1, [.int 0, .ref (u 108), .ref (u 109), .ref (u 110), .ref (u 111), .ref (u 112), .ref (u 113), .ref (u 114), .ref (u 115), .ref (u 116)]))]) hD hS hA [0, 1, 2] rfl
  refine va_calli (va_runV (As := [.int (xs (1 : Int32).toNatClampNeg)]) (rest := []) ⟨hx, hb, hml, hown, hwd⟩ (c_X11_spring l dC dI cI cZ cB cJ cM x0 (u 0) (u 2) (u 3) (u 4) (u 5) (u 10) (u 11) (u 12) (u 98) (u 124) (u 99) (u 107) (u 117) (u 122) (u 123) (u 108) (u 109) (u 110) (u 111) (u 112) (u 113) (u 114) (u 115) (u 116) (xs (1 : Int32).toNatClampNeg) H.size) (cwV 1 hwd (gV kr20_23 kr21_0 kr21_1 kr1_2 kr21_2) rfl rfl rfl (by decide +kernel) ⟨Nat.le_of_ble_eq_true rfl, Nat.le_of_ble_eq_true rfl⟩) (kPreV hPc hK hDc (ci := 11) (q0 := 0) rfl rfl) rfl rfl hl.1 rfl (lv_room (Nat.le_of_ble_eq_true rfl)) dL_law_694 ⟨Nat.le_of_ble_eq_true rfl, Nat.le_of_ble_eq_true rfl⟩) hS (fun q _ h => hFc q h) hFc (fun r1 u2 t H1 locs ht9 hvm hw hB hz1 hk1 hS => ?_)
  obtain ⟨hP, hD⟩ := va_join (wr := [(y0, .inr (12, [.int 0, .ref (v 1), .ref (v 2), .ref (v 3), .ref (v 4), .int 0, .ref (v 6), .int 0, .int 0, .int 0, .int 0, .int 0, .int 0, .int (-1), .ref (v 14), .ref (v 15), .ref (v 16), .ref (v 17), .ref (v 18), .ref (v 19), .ref (v 20), .int 0, .ref (v 22), .int 0, .ref (v 24), .ref (v 25), .int 0, .ref (v 27), .ref (v 28), .ref (v 29), .ref (v 30), .int 0, .int 0, .int 0, .int 0, .int 0, .ref (v 36), .long 0, .ref (v 38), .ref (v 39), .ref (v 40), .ref (v 41)])), (v 1, .inl (cI, 544, .inl (upd (upd (upd (fun _ => 0) 8 1) 9 1) 17 (-1))))]) (w1 := []) hP hD [0, 1, 2] [3, 4] rfl rfl (by decide) (by decide) hk1 hFc kP0 kD0
  generalize H1 = H at hP hS ⊢
  have hP : va_P (dC, dI) vwCl [(y0, .inr (12, [.int 0, .ref (v 1), .ref (v 2), .ref (v 3), .ref (v 4), .int 0, .ref (v 6), .int 0, .int 0, .int 0, .int 0, .int 0, .int 0, .int (-1), .ref (v 14), .ref (v 15), .ref (v 16), .ref (v 17), .ref (v 18), .ref (v 19), .ref (v 20), .int 0, .ref (v 22), .int 0, .ref (v 24), .ref (v 25), .int 0, .ref (v 27), .ref (v 28), .ref (v 29), .ref (v 30), .int 0, .int 0, .int 0, .int 0, .int 0, .ref (v 36), .long 0, .ref (v 38), .ref (v 39), .ref (v 40), .ref (v 41)])), (v 1, .inl (cI, 544, .inl (upd (upd (upd (fun _ => 0) 8 1) 9 1) 17 (-1))))] H := hP
  have hD : va_D (fun q : Nat => s.heap.size ≤ q) [(y0, .inr (12, [.int 0, .ref (v 1), .ref (v 2), .ref (v 3), .ref (v 4), .int 0, .ref (v 6), .int 0, .int 0, .int 0, .int 0, .int 0, .int 0, .int (-1), .ref (v 14), .ref (v 15), .ref (v 16), .ref (v 17), .ref (v 18), .ref (v 19), .ref (v 20), .int 0, .ref (v 22), .int 0, .ref (v 24), .ref (v 25), .int 0, .ref (v 27), .ref (v 28), .ref (v 29), .ref (v 30), .int 0, .int 0, .int 0, .int 0, .int 0, .ref (v 36), .long 0, .ref (v 38), .ref (v 39), .ref (v 40), .ref (v 41)])), (v 1, .inl (cI, 544, .inl (upd (upd (upd (fun _ => 0) 8 1) 9 1) 17 (-1))))] := hD
  subst hw
  refine lv_aload_n hx hb dL_law_697 rfl (lv_at hl 1 rfl) ?_
  refine lv_aload_n hx hb dL_law_698 rfl (lv_at hl 3 rfl) ?_
  refine lv_iload_n hx hb dL_law_699 rfl (lv_at hl 0 rfl) ?_
  refine lv_iconst (v := 1) hx hb dL_law_700 (by decide) ?_
  refine lv_iadd hx hb dL_law_701 ?_
  refine lv_topi (nm_r (e' := (1)) (by decide +kernel) ?_)
  refine va_sld hx hb hX hbl hbA hS (vin (by decide)) dL_law_702 ?_
  have hPc := hP.sub (ws' := [(y0, .inr (12, [.int 0, .ref (v 1), .ref (v 2), .ref (v 3), .ref (v 4), .int 0, .ref (v 6), .int 0, .int 0, .int 0, .int 0, .int 0, .int 0, .int (-1), .ref (v 14), .ref (v 15), .ref (v 16), .ref (v 17), .ref (v 18), .ref (v 19), .ref (v 20), .int 0, .ref (v 22), .int 0, .ref (v 24), .ref (v 25), .int 0, .ref (v 27), .ref (v 28), .ref (v 29), .ref (v 30), .int 0, .int 0, .int 0, .int 0, .int 0, .ref (v 36), .long 0, .ref (v 38), .ref (v 39), .ref (v 40), .ref (v 41)])), (v 1, .inl (cI, 544, .inl (upd (upd (upd (fun _ => 0) 8 1) 9 1) 17 (-1))))]) [0, 1] rfl
  have hDc := hD.sub (ws' := [(y0, .inr (12, [.int 0, .ref (v 1), .ref (v 2), .ref (v 3), .ref (v 4), .int 0, .ref (v 6), .int 0, .int 0, .int 0, .int 0, .int 0, .int 0, .int (-1), .ref (v 14), .ref (v 15), .ref (v 16), .ref (v 17), .ref (v 18), .ref (v 19), .ref (v 20), .int 0, .ref (v 22), .int 0, .ref (v 24), .ref (v 25), .int 0, .ref (v 27), .ref (v 28), .ref (v 29), .ref (v 30), .int 0, .int 0, .int 0, .int 0, .int 0, .ref (v 36), .long 0, .ref (v 38), .ref (v 39), .ref (v 40), .ref (v 41)])), (v 1, .inl (cI, 544, .inl (upd (upd (upd (fun _ => 0) 8 1) 9 1) 17 (-1))))]) [0, 1] (by decide) rfl
  have hFc := va_free (wc := [(y0, .inr (12, [.int 0, .ref (v 1), .ref (v 2), .ref (v 3), .ref (v 4), .int 0, .ref (v 6), .int 0, .int 0, .int 0, .int 0, .int 0, .int 0, .int (-1), .ref (v 14), .ref (v 15), .ref (v 16), .ref (v 17), .ref (v 18), .ref (v 19), .ref (v 20), .int 0, .ref (v 22), .int 0, .ref (v 24), .ref (v 25), .int 0, .ref (v 27), .ref (v 28), .ref (v 29), .ref (v 30), .int 0, .int 0, .int 0, .int 0, .int 0, .ref (v 36), .long 0, .ref (v 38), .ref (v 39), .ref (v 40), .ref (v 41)])), (v 1, .inl (cI, 544, .inl (upd (upd (upd (fun _ => 0) 8 1) 9 1) 17 (-1))))]) hD hS hA [0, 1] rfl
  refine va_calli (va_runV (As := [.int (xs (1 : Int32).toNatClampNeg)]) (rest := [.int (-2)]) ⟨hx, hb, hml, hown, hwd⟩ (c_X12_spring l dC dI cI cZ cB cJ cM y0 v (xs (1 : Int32).toNatClampNeg) H.size) (cwV 1 hwd (gV kr21_3 kr21_4 kr21_5 kr1_5 kr21_6) rfl rfl rfl (by decide +kernel) ⟨Nat.le_of_ble_eq_true rfl, Nat.le_of_ble_eq_true rfl⟩) (kPreV hPc hK hDc (ci := 12) (q0 := 0) rfl rfl) rfl rfl hl.1 rfl (lv_room (Nat.le_of_ble_eq_true rfl)) dL_law_703 ⟨Nat.le_of_ble_eq_true rfl, Nat.le_of_ble_eq_true rfl⟩) hS (fun q _ h => hFc q h) hFc (fun r3 u4 t H1 locs ht9 hvm hw hB hz1 hk1 hS => ?_)
  obtain ⟨hP, hD⟩ := va_join (wr := []) (w1 := []) hP hD [0, 1] [] rfl rfl (by decide) (by decide) hk1 hFc kP0 kD0
  generalize H1 = H at hP hS ⊢
  have hP : va_P (dC, dI) vwCl [] H := hP
  have hD : va_D (fun q : Nat => s.heap.size ≤ q) [] := hD
  subst hw
  refine lv_icmp_eq (tgt := 1731) hx hb dL_law_706 (by decide) (fun c5 => ?_) (fun c5 => absurd c5 (by decide))
  exact law_tail C0 hS (lv_sub hl [3, 0] rfl)
set_option maxHeartbeats 4000000 in
set_option maxRecDepth 100000 in
/-- the call of work on two fresh objects -/
theorem lcase_17 {p : Program} {l : Launch} {e : Env} {s : State} {m : MethodId} {below : List Frame} {meth : Method} {c : Code} {b : Nat} {xs : Nat → Int32} {dC : Nat → ClassId} {dI : Nat → Nat → Nat} {cI cZ cB cJ cM : ClassId} (x0 y0 : Nat) (u v : Nat → Nat) {H : Heap} {locs : List Loc} {ls : Array Slot} (C0 : lw_At p s m meth c b 6 xs) (hK : va_K (dC, dI) vwCl [(cI, .int), (cZ, .boolean), (cB, .byte), (cJ, .long), (cM, .object RX2)] s) (hP : va_P (dC, dI) vwCl [(x0, .inr (11, [.ref (u 0), .ref (u 2), .ref (u 3), .ref (u 4), .ref (u 5), .ref (u 10), .ref (u 11), .ref (u 12), .ref (u 98), .ref (u 124)])), (u 98, .inr (2, [.int 0, .int 0, .int 0, .int 0, .int 0, .int 0, .int 0, .int 0, .int 0, .ref (u 99), .ref (u 107), .ref (u 117), .ref (u 122), .ref (u 123)])), (y0, .inr (12, [.int 0, .ref (v 1), .ref (v 2), .ref (v 3), .ref (v 4), .int 0, .ref (v 6), .int 0, .int 0, .int 0, .int 0, .int 0, .int 0, .int (-1), .ref (v 14), .ref (v 15), .ref (v 16), .ref (v 17), .ref (v 18), .ref (v 19), .ref (v 20), .int 0, .ref (v 22), .int 0, .ref (v 24), .ref (v 25), .int 0, .ref (v 27), .ref (v 28), .ref (v 29), .ref (v 30), .int 0, .int 0, .int 0, .int 0, .int 0, .ref (v 36), .long 0, .ref (v 38), .ref (v 39), .ref (v 40), .ref (v 41)])), (v 1, .inl (cI, 544, .inl (upd (upd (upd (fun _ => 0) 8 1) 9 1) 17 (-1))))] H) (hD : va_D (fun q : Nat => s.heap.size ≤ q) [(x0, .inr (11, [.ref (u 0), .ref (u 2), .ref (u 3), .ref (u 4), .ref (u 5), .ref (u 10), .ref (u 11), .ref (u 12), .ref (u 98), .ref (u 124)])), (u 98, .inr (2, [.int 0, .int 0, .int 0, .int 0, .int 0, .int 0, .int 0, .int 0, .int 0, .ref (u 99), .ref (u 107), .ref (u 117), .ref (u 122), .ref (u 123)])), (y0, .inr (12, [.int 0, .ref (v 1), .ref (v 2), .ref (v 3), .ref (v 4), .int 0, .ref (v 6), .int 0, .int 0, .int 0, .int 0, .int 0, .int 0, .int (-1), .ref (v 14), .ref (v 15), .ref (v 16), .ref (v 17), .ref (v 18), .ref (v 19), .ref (v 20), .int 0, .ref (v 22), .int 0, .ref (v 24), .ref (v 25), .int 0, .ref (v 27), .ref (v 28), .ref (v 29), .ref (v 30), .int 0, .int 0, .int 0, .int 0, .int 0, .ref (v 36), .long 0, .ref (v 38), .ref (v 39), .ref (v 40), .ref (v 41)])), (v 1, .inl (cI, 544, .inl (upd (upd (upd (fun _ => 0) 8 1) 9 1) 17 (-1))))]) (hS : va_S (fun q : Nat => s.heap.size ≤ q) s.heap H locs) (hl : lv_has ls 4 [(3, .int 0), (2, .ref y0), (1, .ref x0), (0, .ref b)]) : W p l e room_1 s m #[Value.ref b] below meth c H locs 600000 7302250 (lw_Z below #[Value.ref b] s) (F0 m 711 ls []) := by
  obtain ⟨hx, hb, hr, hml, hown0, hts, hX, hbl, hlocks, hgv⟩ := id C0
  have hb : c.code = cL_law := hb
  have hown : s.vm.findClass RL = some m.cls := hown0
  have hwd : ∀ wd ∈ wsL_law, wd.before #[Value.ref b] s = true := fun w h => hts w (wsL_law_in w h)
  have hA : ∀ q : Nat, s.heap.size ≤ q → (fun q : Nat => s.heap.size ≤ q) q := fun _ h => h
  have hbA : ¬ (fun q : Nat => s.heap.size ≤ q) b := Nat.not_le.mpr hbl
  refine lv_aload_n hx hb dL_law_711 rfl (lv_at hl 2 rfl) ?_
  have hPc := hP.sub (ws' := [(x0, .inr (11, [.ref (u 0), .ref (u 2), .ref (u 3), .ref (u 4), .ref (u 5), .ref (u 10), .ref (u 11), .ref (u 12), .ref (u 98), .ref (u 124)])), (u 98, .inr (2, [.int 0, .int 0, .int 0, .int 0, .int 0, .int 0, .int 0, .int 0, .int 0, .ref (u 99), .ref (u 107), .ref (u 117), .ref (u 122), .ref (u 123)]))]) [0, 1] rfl
  have hDc := hD.sub (ws' := [(x0, .inr (11, [.ref (u 0), .ref (u 2), .ref (u 3), .ref (u 4), .ref (u 5), .ref (u 10), .ref (u 11), .ref (u 12), .ref (u 98), .ref (u 124)])), (u 98, .inr (2, [.int 0, .int 0, .int 0, .int 0, .int 0, .int 0, .int 0, .int 0, .int 0, .ref (u 99), .ref (u 107), .ref (u 117), .ref (u 122), .ref (u 123)]))]) [0, 1] (by decide) rfl
  have hFc := va_free (wc := [(x0, .inr (11, [.ref (u 0), .ref (u 2), .ref (u 3), .ref (u 4), .ref (u 5), .ref (u 10), .ref (u 11), .ref (u 12), .ref (u 98), .ref (u 124)])), (u 98, .inr (2, [.int 0, .int 0, .int 0, .int 0, .int 0, .int 0, .int 0, .int 0, .int 0, .ref (u 99), .ref (u 107), .ref (u 117), .ref (u 122), .ref (u 123)]))]) hD hS hA [0, 1] rfl
  refine va_calli (va_runV (As := []) (rest := []) ⟨hx, hb, hml, hown, hwd⟩ (c_X11_work l dC dI cI cZ cB cJ cM x0 (u 0) (u 2) (u 3) (u 4) (u 5) (u 10) (u 11) (u 12) (u 98) (u 124) (u 99) (u 107) (u 117) (u 122) (u 123) H.size) (cwV 0 hwd (gV kr21_7 kr21_8 kr21_9 kr1_2 kr21_10) rfl rfl rfl (by decide +kernel) ⟨Nat.le_of_ble_eq_true rfl, Nat.le_of_ble_eq_true rfl⟩) (kPreV hPc hK hDc (ci := 11) (q0 := 0) rfl rfl) rfl rfl hl.1 rfl (lv_room (Nat.le_of_ble_eq_true rfl)) dL_law_712 ⟨Nat.le_of_ble_eq_true rfl, Nat.le_of_ble_eq_true rfl⟩) hS (fun q _ h => hFc q h) hFc (fun r1 u2 t H1 locs ht9 hvm hw hB hz1 hk1 hS => ?_)
  obtain ⟨hP, hD⟩ := va_join (wr := [(y0, .inr (12, [.int 0, .ref (v 1), .ref (v 2), .ref (v 3), .ref (v 4), .int 0, .ref (v 6), .int 0, .int 0, .int 0, .int 0, .int 0, .int 0, .int (-1), .ref (v 14), .ref (v 15), .ref (v 16), .ref (v 17), .ref (v 18), .ref (v 19), .ref (v 20), .int 0, .ref (v 22), .int 0, .ref (v 24), .ref (v 25), .int 0, .ref (v 27), .ref (v 28), .ref (v 29), .ref (v 30), .int 0, .int 0, .int 0, .int 0, .int 0, .ref (v 36), .long 0, .ref (v 38), .ref (v 39), .ref (v 40), .ref (v 41)])), (v 1, .inl (cI, 544, .inl (upd (upd (upd (fun _ => 0) 8 1) 9 1) 17 (-1))))]) (w1 := []) hP hD [0, 1] [2, 3] rfl rfl (by decide) (by decide) hk1 hFc kP0 kD0
  generalize H1 = H at hP hS ⊢
  have hP : va_P (dC, dI) vwCl [(y0, .inr (12, [.int 0, .ref (v 1), .ref (v 2), .ref (v 3), .ref (v 4), .int 0, .ref (v 6), .int 0, .int 0, .int 0, .int 0, .int 0, .int 0, .int (-1), .ref (v 14), .ref (v 15), .ref (v 16), .ref (v 17), .ref (v 18), .ref (v 19), .ref (v 20), .int 0, .ref (v 22), .int 0, .ref (v 24), .ref (v 25), .int 0, .ref (v 27), .ref (v 28), .ref (v 29), .ref (v 30), .int 0, .int 0, .int 0, .int 0, .int 0, .ref (v 36), .long 0, .ref (v 38), .ref (v 39), .ref (v 40), .ref (v 41)])), (v 1, .inl (cI, 544, .inl (upd (upd (upd (fun _ => 0) 8 1) 9 1) 17 (-1))))] H := hP
  have hD : va_D (fun q : Nat => s.heap.size ≤ q) [(y0, .inr (12, [.int 0, .ref (v 1), .ref (v 2), .ref (v 3), .ref (v 4), .int 0, .ref (v 6), .int 0, .int 0, .int 0, .int 0, .int 0, .int 0, .int (-1), .ref (v 14), .ref (v 15), .ref (v 16), .ref (v 17), .ref (v 18), .ref (v 19), .ref (v 20), .int 0, .ref (v 22), .int 0, .ref (v 24), .ref (v 25), .int 0, .ref (v 27), .ref (v 28), .ref (v 29), .ref (v 30), .int 0, .int 0, .int 0, .int 0, .int 0, .ref (v 36), .long 0, .ref (v 38), .ref (v 39), .ref (v 40), .ref (v 41)])), (v 1, .inl (cI, 544, .inl (upd (upd (upd (fun _ => 0) 8 1) 9 1) 17 (-1))))] := hD
  subst hw
  refine lv_aload_n hx hb dL_law_715 rfl (lv_at hl 1 rfl) ?_
  have hPc := hP.sub (ws' := [(y0, .inr (12, [.int 0, .ref (v 1), .ref (v 2), .ref (v 3), .ref (v 4), .int 0, .ref (v 6), .int 0, .int 0, .int 0, .int 0, .int 0, .int 0, .int (-1), .ref (v 14), .ref (v 15), .ref (v 16), .ref (v 17), .ref (v 18), .ref (v 19), .ref (v 20), .int 0, .ref (v 22), .int 0, .ref (v 24), .ref (v 25), .int 0, .ref (v 27), .ref (v 28), .ref (v 29), .ref (v 30), .int 0, .int 0, .int 0, .int 0, .int 0, .ref (v 36), .long 0, .ref (v 38), .ref (v 39), .ref (v 40), .ref (v 41)])), (v 1, .inl (cI, 544, .inl (upd (upd (upd (fun _ => 0) 8 1) 9 1) 17 (-1))))]) [0, 1] rfl
  have hDc := hD.sub (ws' := [(y0, .inr (12, [.int 0, .ref (v 1), .ref (v 2), .ref (v 3), .ref (v 4), .int 0, .ref (v 6), .int 0, .int 0, .int 0, .int 0, .int 0, .int 0, .int (-1), .ref (v 14), .ref (v 15), .ref (v 16), .ref (v 17), .ref (v 18), .ref (v 19), .ref (v 20), .int 0, .ref (v 22), .int 0, .ref (v 24), .ref (v 25), .int 0, .ref (v 27), .ref (v 28), .ref (v 29), .ref (v 30), .int 0, .int 0, .int 0, .int 0, .int 0, .ref (v 36), .long 0, .ref (v 38), .ref (v 39), .ref (v 40), .ref (v 41)])), (v 1, .inl (cI, 544, .inl (upd (upd (upd (fun _ => 0) 8 1) 9 1) 17 (-1))))]) [0, 1] (by decide) rfl
  have hFc := va_free (wc := [(y0, .inr (12, [.int 0, .ref (v 1), .ref (v 2), .ref (v 3), .ref (v 4), .int 0, .ref (v 6), .int 0, .int 0, .int 0, .int 0, .int 0, .int 0, .int (-1), .ref (v 14), .ref (v 15), .ref (v 16), .ref (v 17), .ref (v 18), .ref (v 19), .ref (v 20), .int 0, .ref (v 22), .int 0, .ref (v 24), .ref (v 25), .int 0, .ref (v 27), .ref (v 28), .ref (v 29), .ref (v 30), .int 0, .int 0, .int 0, .int 0, .int 0, .ref (v 36), .long 0, .ref (v 38), .ref (v 39), .ref (v 40), .ref (v 41)])), (v 1, .inl (cI, 544, .inl (upd (upd (upd (fun _ => 0) 8 1) 9 1) 17 (-1))))]) hD hS hA [0, 1] rfl
  refine va_calli (va_runV (As := []) (rest := [.int (-2)]) ⟨hx, hb, hml, hown, hwd⟩ (c_X12_work l dC dI cI cZ cB cJ cM y0 v H.size) (cwV 0 hwd (gV kr21_11 kr21_12 kr21_13 kr1_5 kr21_14) rfl rfl rfl (by decide +kernel) ⟨Nat.le_of_ble_eq_true rfl, Nat.le_of_ble_eq_true rfl⟩) (kPreV hPc hK hDc (ci := 12) (q0 := 0) rfl rfl) rfl rfl hl.1 rfl (lv_room (Nat.le_of_ble_eq_true rfl)) dL_law_716 ⟨Nat.le_of_ble_eq_true rfl, Nat.le_of_ble_eq_true rfl⟩) hS (fun q _ h => hFc q h) hFc (fun r3 u4 t H1 locs ht9 hvm hw hB hz1 hk1 hS => ?_)
  obtain ⟨hP, hD⟩ := va_join (wr := []) (w1 := []) hP hD [0, 1] [] rfl rfl (by decide) (by decide) hk1 hFc kP0 kD0
  generalize H1 = H at hP hS ⊢
  have hP : va_P (dC, dI) vwCl [] H := hP
  have hD : va_D (fun q : Nat => s.heap.size ≤ q) [] := hD
  subst hw
  refine lv_icmp_eq (tgt := 1731) hx hb dL_law_719 (by decide) (fun c5 => ?_) (fun c5 => absurd c5 (by decide))
  exact law_tail C0 hS (lv_sub hl [3, 0] rfl)
set_option maxHeartbeats 4000000 in
set_option maxRecDepth 100000 in
/-- the call of clicks on two fresh objects -/
theorem lcase_18 {p : Program} {l : Launch} {e : Env} {s : State} {m : MethodId} {below : List Frame} {meth : Method} {c : Code} {b : Nat} {xs : Nat → Int32} {dC : Nat → ClassId} {dI : Nat → Nat → Nat} {cI cZ cB cJ cM : ClassId} (x0 y0 : Nat) (u v : Nat → Nat) {H : Heap} {locs : List Loc} {ls : Array Slot} (C0 : lw_At p s m meth c b 6 xs) (hK : va_K (dC, dI) vwCl [(cI, .int), (cZ, .boolean), (cB, .byte), (cJ, .long), (cM, .object RX2)] s) (hP : va_P (dC, dI) vwCl [(x0, .inr (11, [.ref (u 0), .ref (u 2), .ref (u 3), .ref (u 4), .ref (u 5), .ref (u 10), .ref (u 11), .ref (u 12), .ref (u 98), .ref (u 124)])), (u 98, .inr (2, [.int 0, .int 0, .int 0, .int 0, .int 0, .int 0, .int 0, .int 0, .int 0, .ref (u 99), .ref (u 107), .ref (u 117), .ref (u 122), .ref (u 123)])), (u 117, .inr (4, [.int 0, .ref (u 118), .ref (u 119), .ref (u 120), .ref (u 121)])), (y0, .inr (12, [.int 0, .ref (v 1), .ref (v 2), .ref (v 3), .ref (v 4), .int 0, .ref (v 6), .int 0, .int 0, .int 0, .int 0, .int 0, .int 0, .int (-1), .ref (v 14), .ref (v 15), .ref (v 16), .ref (v 17), .ref (v 18), .ref (v 19), .ref (v 20), .int 0, .ref (v 22), .int 0, .ref (v 24), .ref (v 25), .int 0, .ref (v 27), .ref (v 28), .ref (v 29), .ref (v 30), .int 0, .int 0, .int 0, .int 0, .int 0, .ref (v 36), .long 0, .ref (v 38), .ref (v 39), .ref (v 40), .ref (v 41)])), (v 1, .inl (cI, 544, .inl (upd (upd (upd (fun _ => 0) 8 1) 9 1) 17 (-1))))] H) (hD : va_D (fun q : Nat => s.heap.size ≤ q) [(x0, .inr (11, [.ref (u 0), .ref (u 2), .ref (u 3), .ref (u 4), .ref (u 5), .ref (u 10), .ref (u 11), .ref (u 12), .ref (u 98), .ref (u 124)])), (u 98, .inr (2, [.int 0, .int 0, .int 0, .int 0, .int 0, .int 0, .int 0, .int 0, .int 0, .ref (u 99), .ref (u 107), .ref (u 117), .ref (u 122), .ref (u 123)])), (u 117, .inr (4, [.int 0, .ref (u 118), .ref (u 119), .ref (u 120), .ref (u 121)])), (y0, .inr (12, [.int 0, .ref (v 1), .ref (v 2), .ref (v 3), .ref (v 4), .int 0, .ref (v 6), .int 0, .int 0, .int 0, .int 0, .int 0, .int 0, .int (-1), .ref (v 14), .ref (v 15), .ref (v 16), .ref (v 17), .ref (v 18), .ref (v 19), .ref (v 20), .int 0, .ref (v 22), .int 0, .ref (v 24), .ref (v 25), .int 0, .ref (v 27), .ref (v 28), .ref (v 29), .ref (v 30), .int 0, .int 0, .int 0, .int 0, .int 0, .ref (v 36), .long 0, .ref (v 38), .ref (v 39), .ref (v 40), .ref (v 41)])), (v 1, .inl (cI, 544, .inl (upd (upd (upd (fun _ => 0) 8 1) 9 1) 17 (-1))))]) (hS : va_S (fun q : Nat => s.heap.size ≤ q) s.heap H locs) (hl : lv_has ls 4 [(3, .int 0), (2, .ref y0), (1, .ref x0), (0, .ref b)]) : W p l e room_1 s m #[Value.ref b] below meth c H locs 600000 7302250 (lw_Z below #[Value.ref b] s) (F0 m 724 ls []) := by
  obtain ⟨hx, hb, hr, hml, hown0, hts, hX, hbl, hlocks, hgv⟩ := id C0
  have hb : c.code = cL_law := hb
  have hown : s.vm.findClass RL = some m.cls := hown0
  have hwd : ∀ wd ∈ wsL_law, wd.before #[Value.ref b] s = true := fun w h => hts w (wsL_law_in w h)
  have hA : ∀ q : Nat, s.heap.size ≤ q → (fun q : Nat => s.heap.size ≤ q) q := fun _ h => h
  have hbA : ¬ (fun q : Nat => s.heap.size ≤ q) b := Nat.not_le.mpr hbl
  refine lv_aload_n hx hb dL_law_724 rfl (lv_at hl 2 rfl) ?_
  refine lv_aload_n hx hb dL_law_725 rfl (lv_at hl 3 rfl) ?_
  refine lv_iload_n hx hb dL_law_726 rfl (lv_at hl 0 rfl) ?_
  refine lv_iconst (v := 1) hx hb dL_law_727 (by decide) ?_
  refine lv_iadd hx hb dL_law_728 ?_
  refine lv_topi (nm_r (e' := (1)) (by decide +kernel) ?_)
  refine va_sld hx hb hX hbl hbA hS (vin (by decide)) dL_law_729 ?_
  have hPc := hP.sub (ws' := [(x0, .inr (11, [.ref (u 0), .ref (u 2), .ref (u 3), .ref (u 4), .ref (u 5), .ref (u 10), .ref (u 11), .ref (u 12), .ref (u 98), .ref (u 124)])), (u 98, .inr (2, [.int 0, .int 0, .int 0, .int 0, .int 0, .int 0, .int 0, .int 0, .int 0, .ref (u 99), .ref (u 107), .ref (u 117), .ref (u 122), .ref (u 123)])), (u 117, .inr (4, [.int 0, .ref (u 118), .ref (u 119), .ref (u 120), .ref (u 121)]))]) [0, 1, 2] rfl
  have hDc := hD.sub (ws' := [(x0, .inr (11, [.ref (u 0), .ref (u 2), .ref (u 3), .ref (u 4), .ref (u 5), .ref (u 10), .ref (u 11), .ref (u 12), .ref (u 98), .ref (u 124)])), (u 98, .inr (2, [.int 0, .int 0, .int 0, .int 0, .int 0, .int 0, .int 0, .int 0, .int 0, .ref (u 99), .ref (u 107), .ref (u 117), .ref (u 122), .ref (u 123)])), (u 117, .inr (4, [.int 0, .ref (u 118), .ref (u 119), .ref (u 120), .ref (u 121)]))]) [0, 1, 2] (by decide) rfl
  have hFc := va_free (wc := [(x0, .inr (11, [.ref (u 0), .ref (u 2), .ref (u 3), .ref (u 4), .ref (u 5), .ref (u 10), .ref (u 11), .ref (u 12), .ref (u 98), .ref (u 124)])), (u 98, .inr (2, [.int 0, .int 0, .int 0, .int 0, .int 0, .int 0, .int 0, .int 0, .int 0, .ref (u 99), .ref (u 107), .ref (u 117), .ref (u 122), .ref (u 123)])), (u 117, .inr (4, [.int 0, .ref (u 118), .ref (u 119), .ref (u 120), .ref (u 121)]))]) hD hS hA [0, 1, 2] rfl
  refine va_calli (va_runV (As := [.int (xs (1 : Int32).toNatClampNeg)]) (rest := []) ⟨hx, hb, hml, hown, hwd⟩ (c_X11_clicks l dC dI cI cZ cB cJ cM x0 (u 0) (u 2) (u 3) (u 4) (u 5) (u 10) (u 11) (u 12) (u 98) (u 124) (u 99) (u 107) (u 117) (u 122) (u 123) (u 118) (u 119) (u 120) (u 121) (xs (1 : Int32).toNatClampNeg) H.size) (cwV 1 hwd (gV kr21_15 kr21_16 kr21_17 kr1_2 kr21_18) rfl rfl rfl (by decide +kernel) ⟨Nat.le_of_ble_eq_true rfl, Nat.le_of_ble_eq_true rfl⟩) (kPreV hPc hK hDc (ci := 11) (q0 := 0) rfl rfl) rfl rfl hl.1 rfl (lv_room (Nat.le_of_ble_eq_true rfl)) dL_law_730 ⟨Nat.le_of_ble_eq_true rfl, Nat.le_of_ble_eq_true rfl⟩) hS (fun q _ h => hFc q h) hFc (fun r1 u2 t H1 locs ht9 hvm hw hB hz1 hk1 hS => ?_)
  obtain ⟨hP, hD⟩ := va_join (wr := [(y0, .inr (12, [.int 0, .ref (v 1), .ref (v 2), .ref (v 3), .ref (v 4), .int 0, .ref (v 6), .int 0, .int 0, .int 0, .int 0, .int 0, .int 0, .int (-1), .ref (v 14), .ref (v 15), .ref (v 16), .ref (v 17), .ref (v 18), .ref (v 19), .ref (v 20), .int 0, .ref (v 22), .int 0, .ref (v 24), .ref (v 25), .int 0, .ref (v 27), .ref (v 28), .ref (v 29), .ref (v 30), .int 0, .int 0, .int 0, .int 0, .int 0, .ref (v 36), .long 0, .ref (v 38), .ref (v 39), .ref (v 40), .ref (v 41)])), (v 1, .inl (cI, 544, .inl (upd (upd (upd (fun _ => 0) 8 1) 9 1) 17 (-1))))]) (w1 := []) hP hD [0, 1, 2] [3, 4] rfl rfl (by decide) (by decide) hk1 hFc kP0 kD0
  generalize H1 = H at hP hS ⊢
  have hP : va_P (dC, dI) vwCl [(y0, .inr (12, [.int 0, .ref (v 1), .ref (v 2), .ref (v 3), .ref (v 4), .int 0, .ref (v 6), .int 0, .int 0, .int 0, .int 0, .int 0, .int 0, .int (-1), .ref (v 14), .ref (v 15), .ref (v 16), .ref (v 17), .ref (v 18), .ref (v 19), .ref (v 20), .int 0, .ref (v 22), .int 0, .ref (v 24), .ref (v 25), .int 0, .ref (v 27), .ref (v 28), .ref (v 29), .ref (v 30), .int 0, .int 0, .int 0, .int 0, .int 0, .ref (v 36), .long 0, .ref (v 38), .ref (v 39), .ref (v 40), .ref (v 41)])), (v 1, .inl (cI, 544, .inl (upd (upd (upd (fun _ => 0) 8 1) 9 1) 17 (-1))))] H := hP
  have hD : va_D (fun q : Nat => s.heap.size ≤ q) [(y0, .inr (12, [.int 0, .ref (v 1), .ref (v 2), .ref (v 3), .ref (v 4), .int 0, .ref (v 6), .int 0, .int 0, .int 0, .int 0, .int 0, .int 0, .int (-1), .ref (v 14), .ref (v 15), .ref (v 16), .ref (v 17), .ref (v 18), .ref (v 19), .ref (v 20), .int 0, .ref (v 22), .int 0, .ref (v 24), .ref (v 25), .int 0, .ref (v 27), .ref (v 28), .ref (v 29), .ref (v 30), .int 0, .int 0, .int 0, .int 0, .int 0, .ref (v 36), .long 0, .ref (v 38), .ref (v 39), .ref (v 40), .ref (v 41)])), (v 1, .inl (cI, 544, .inl (upd (upd (upd (fun _ => 0) 8 1) 9 1) 17 (-1))))] := hD
  subst hw
  refine lv_aload_n hx hb dL_law_733 rfl (lv_at hl 1 rfl) ?_
  refine lv_aload_n hx hb dL_law_734 rfl (lv_at hl 3 rfl) ?_
  refine lv_iload_n hx hb dL_law_735 rfl (lv_at hl 0 rfl) ?_
  refine lv_iconst (v := 1) hx hb dL_law_736 (by decide) ?_
  refine lv_iadd hx hb dL_law_737 ?_
  refine lv_topi (nm_r (e' := (1)) (by decide +kernel) ?_)
  refine va_sld hx hb hX hbl hbA hS (vin (by decide)) dL_law_738 ?_
  have hPc := hP.sub (ws' := [(y0, .inr (12, [.int 0, .ref (v 1), .ref (v 2), .ref (v 3), .ref (v 4), .int 0, .ref (v 6), .int 0, .int 0, .int 0, .int 0, .int 0, .int 0, .int (-1), .ref (v 14), .ref (v 15), .ref (v 16), .ref (v 17), .ref (v 18), .ref (v 19), .ref (v 20), .int 0, .ref (v 22), .int 0, .ref (v 24), .ref (v 25), .int 0, .ref (v 27), .ref (v 28), .ref (v 29), .ref (v 30), .int 0, .int 0, .int 0, .int 0, .int 0, .ref (v 36), .long 0, .ref (v 38), .ref (v 39), .ref (v 40), .ref (v 41)])), (v 1, .inl (cI, 544, .inl (upd (upd (upd (fun _ => 0) 8 1) 9 1) 17 (-1))))]) [0, 1] rfl
  have hDc := hD.sub (ws' := [(y0, .inr (12, [.int 0, .ref (v 1), .ref (v 2), .ref (v 3), .ref (v 4), .int 0, .ref (v 6), .int 0, .int 0, .int 0, .int 0, .int 0, .int 0, .int (-1), .ref (v 14), .ref (v 15), .ref (v 16), .ref (v 17), .ref (v 18), .ref (v 19), .ref (v 20), .int 0, .ref (v 22), .int 0, .ref (v 24), .ref (v 25), .int 0, .ref (v 27), .ref (v 28), .ref (v 29), .ref (v 30), .int 0, .int 0, .int 0, .int 0, .int 0, .ref (v 36), .long 0, .ref (v 38), .ref (v 39), .ref (v 40), .ref (v 41)])), (v 1, .inl (cI, 544, .inl (upd (upd (upd (fun _ => 0) 8 1) 9 1) 17 (-1))))]) [0, 1] (by decide) rfl
  have hFc := va_free (wc := [(y0, .inr (12, [.int 0, .ref (v 1), .ref (v 2), .ref (v 3), .ref (v 4), .int 0, .ref (v 6), .int 0, .int 0, .int 0, .int 0, .int 0, .int 0, .int (-1), .ref (v 14), .ref (v 15), .ref (v 16), .ref (v 17), .ref (v 18), .ref (v 19), .ref (v 20), .int 0, .ref (v 22), .int 0, .ref (v 24), .ref (v 25), .int 0, .ref (v 27), .ref (v 28), .ref (v 29), .ref (v 30), .int 0, .int 0, .int 0, .int 0, .int 0, .ref (v 36), .long 0, .ref (v 38), .ref (v 39), .ref (v 40), .ref (v 41)])), (v 1, .inl (cI, 544, .inl (upd (upd (upd (fun _ => 0) 8 1) 9 1) 17 (-1))))]) hD hS hA [0, 1] rfl
  refine va_calli (va_runV (As := [.int (xs (1 : Int32).toNatClampNeg)]) (rest := [.int (-2)]) ⟨hx, hb, hml, hown, hwd⟩ (c_X12_clicks l dC dI cI cZ cB cJ cM y0 v (xs (1 : Int32).toNatClampNeg) H.size) (cwV 1 hwd (gV kr21_19 kr21_20 kr21_21 kr1_5 kr21_22) rfl rfl rfl (by decide +kernel) ⟨Nat.le_of_ble_eq_true rfl, Nat.le_of_ble_eq_true rfl⟩) (kPreV hPc hK hDc (ci := 12) (q0 := 0) rfl rfl) rfl rfl hl.1 rfl (lv_room (Nat.le_of_ble_eq_true rfl)) dL_law_739 ⟨Nat.le_of_ble_eq_true rfl, Nat.le_of_ble_eq_true rfl⟩) hS (fun q _ h => hFc q h) hFc (fun r3 u4 t H1 locs ht9 hvm hw hB hz1 hk1 hS => ?_)
  obtain ⟨hP, hD⟩ := va_join (wr := []) (w1 := []) hP hD [0, 1] [] rfl rfl (by decide) (by decide) hk1 hFc kP0 kD0
  generalize H1 = H at hP hS ⊢
  have hP : va_P (dC, dI) vwCl [] H := hP
  have hD : va_D (fun q : Nat => s.heap.size ≤ q) [] := hD
  subst hw
  refine lv_icmp_eq (tgt := 1731) hx hb dL_law_742 (by decide) (fun c5 => ?_) (fun c5 => absurd c5 (by decide))
  exact law_tail C0 hS (lv_sub hl [3, 0] rfl)
set_option maxHeartbeats 4000000 in
set_option maxRecDepth 100000 in
/-- the call of same on two fresh objects -/
theorem lcase_19 {p : Program} {l : Launch} {e : Env} {s : State} {m : MethodId} {below : List Frame} {meth : Method} {c : Code} {b : Nat} {xs : Nat → Int32} {dC : Nat → ClassId} {dI : Nat → Nat → Nat} {cI cZ cB cJ cM : ClassId} (x0 y0 : Nat) (u v : Nat → Nat) {H : Heap} {locs : List Loc} {ls : Array Slot} (C0 : lw_At p s m meth c b 6 xs) (hK : va_K (dC, dI) vwCl [(cI, .int), (cZ, .boolean), (cB, .byte), (cJ, .long), (cM, .object RX2)] s) (hP : va_P (dC, dI) vwCl [(x0, .inr (11, [.ref (u 0), .ref (u 2), .ref (u 3), .ref (u 4), .ref (u 5), .ref (u 10), .ref (u 11), .ref (u 12), .ref (u 98), .ref (u 124)])), (u 98, .inr (2, [.int 0, .int 0, .int 0, .int 0, .int 0, .int 0, .int 0, .int 0, .int 0, .ref (u 99), .ref (u 107), .ref (u 117), .ref (u 122), .ref (u 123)])), (y0, .inr (12, [.int 0, .ref (v 1), .ref (v 2), .ref (v 3), .ref (v 4), .int 0, .ref (v 6), .int 0, .int 0, .int 0, .int 0, .int 0, .int 0, .int (-1), .ref (v 14), .ref (v 15), .ref (v 16), .ref (v 17), .ref (v 18), .ref (v 19), .ref (v 20), .int 0, .ref (v 22), .int 0, .ref (v 24), .ref (v 25), .int 0, .ref (v 27), .ref (v 28), .ref (v 29), .ref (v 30), .int 0, .int 0, .int 0, .int 0, .int 0, .ref (v 36), .long 0, .ref (v 38), .ref (v 39), .ref (v 40), .ref (v 41)])), (v 1, .inl (cI, 544, .inl (upd (upd (upd (fun _ => 0) 8 1) 9 1) 17 (-1))))] H) (hD : va_D (fun q : Nat => s.heap.size ≤ q) [(x0, .inr (11, [.ref (u 0), .ref (u 2), .ref (u 3), .ref (u 4), .ref (u 5), .ref (u 10), .ref (u 11), .ref (u 12), .ref (u 98), .ref (u 124)])), (u 98, .inr (2, [.int 0, .int 0, .int 0, .int 0, .int 0, .int 0, .int 0, .int 0, .int 0, .ref (u 99), .ref (u 107), .ref (u 117), .ref (u 122), .ref (u 123)])), (y0, .inr (12, [.int 0, .ref (v 1), .ref (v 2), .ref (v 3), .ref (v 4), .int 0, .ref (v 6), .int 0, .int 0, .int 0, .int 0, .int 0, .int 0, .int (-1), .ref (v 14), .ref (v 15), .ref (v 16), .ref (v 17), .ref (v 18), .ref (v 19), .ref (v 20), .int 0, .ref (v 22), .int 0, .ref (v 24), .ref (v 25), .int 0, .ref (v 27), .ref (v 28), .ref (v 29), .ref (v 30), .int 0, .int 0, .int 0, .int 0, .int 0, .ref (v 36), .long 0, .ref (v 38), .ref (v 39), .ref (v 40), .ref (v 41)])), (v 1, .inl (cI, 544, .inl (upd (upd (upd (fun _ => 0) 8 1) 9 1) 17 (-1))))]) (hS : va_S (fun q : Nat => s.heap.size ≤ q) s.heap H locs) (hl : lv_has ls 4 [(3, .int 0), (2, .ref y0), (1, .ref x0), (0, .ref b)]) : W p l e room_1 s m #[Value.ref b] below meth c H locs 600000 7302250 (lw_Z below #[Value.ref b] s) (F0 m 747 ls []) := by
  obtain ⟨hx, hb, hr, hml, hown0, hts, hX, hbl, hlocks, hgv⟩ := id C0
  have hb : c.code = cL_law := hb
  have hown : s.vm.findClass RL = some m.cls := hown0
  have hwd : ∀ wd ∈ wsL_law, wd.before #[Value.ref b] s = true := fun w h => hts w (wsL_law_in w h)
  have hA : ∀ q : Nat, s.heap.size ≤ q → (fun q : Nat => s.heap.size ≤ q) q := fun _ h => h
  have hbA : ¬ (fun q : Nat => s.heap.size ≤ q) b := Nat.not_le.mpr hbl
  refine lv_aload_n hx hb dL_law_747 rfl (lv_at hl 2 rfl) ?_
  have hPc := hP.sub (ws' := [(x0, .inr (11, [.ref (u 0), .ref (u 2), .ref (u 3), .ref (u 4), .ref (u 5), .ref (u 10), .ref (u 11), .ref (u 12), .ref (u 98), .ref (u 124)])), (u 98, .inr (2, [.int 0, .int 0, .int 0, .int 0, .int 0, .int 0, .int 0, .int 0, .int 0, .ref (u 99), .ref (u 107), .ref (u 117), .ref (u 122), .ref (u 123)]))]) [0, 1] rfl
  have hDc := hD.sub (ws' := [(x0, .inr (11, [.ref (u 0), .ref (u 2), .ref (u 3), .ref (u 4), .ref (u 5), .ref (u 10), .ref (u 11), .ref (u 12), .ref (u 98), .ref (u 124)])), (u 98, .inr (2, [.int 0, .int 0, .int 0, .int 0, .int 0, .int 0, .int 0, .int 0, .int 0, .ref (u 99), .ref (u 107), .ref (u 117), .ref (u 122), .ref (u 123)]))]) [0, 1] (by decide) rfl
  have hFc := va_free (wc := [(x0, .inr (11, [.ref (u 0), .ref (u 2), .ref (u 3), .ref (u 4), .ref (u 5), .ref (u 10), .ref (u 11), .ref (u 12), .ref (u 98), .ref (u 124)])), (u 98, .inr (2, [.int 0, .int 0, .int 0, .int 0, .int 0, .int 0, .int 0, .int 0, .int 0, .ref (u 99), .ref (u 107), .ref (u 117), .ref (u 122), .ref (u 123)]))]) hD hS hA [0, 1] rfl
  refine va_calli (va_runV (As := []) (rest := []) ⟨hx, hb, hml, hown, hwd⟩ (c_X11_same l dC dI cI cZ cB cJ cM x0 (u 0) (u 2) (u 3) (u 4) (u 5) (u 10) (u 11) (u 12) (u 98) (u 124) (u 99) (u 107) (u 117) (u 122) (u 123) H.size) (cwV 0 hwd (gV kr21_23 kr22_0 kr22_1 kr1_2 kr22_2) rfl rfl rfl (by decide +kernel) ⟨Nat.le_of_ble_eq_true rfl, Nat.le_of_ble_eq_true rfl⟩) (kPreV hPc hK hDc (ci := 11) (q0 := 0) rfl rfl) rfl rfl hl.1 rfl (lv_room (Nat.le_of_ble_eq_true rfl)) dL_law_748 ⟨Nat.le_of_ble_eq_true rfl, Nat.le_of_ble_eq_true rfl⟩) hS (fun q _ h => hFc q h) hFc (fun r1 u2 t H1 locs ht9 hvm hw hB hz1 hk1 hS => ?_)
  obtain ⟨hP, hD⟩ := va_join (wr := [(y0, .inr (12, [.int 0, .ref (v 1), .ref (v 2), .ref (v 3), .ref (v 4), .int 0, .ref (v 6), .int 0, .int 0, .int 0, .int 0, .int 0, .int 0, .int (-1), .ref (v 14), .ref (v 15), .ref (v 16), .ref (v 17), .ref (v 18), .ref (v 19), .ref (v 20), .int 0, .ref (v 22), .int 0, .ref (v 24), .ref (v 25), .int 0, .ref (v 27), .ref (v 28), .ref (v 29), .ref (v 30), .int 0, .int 0, .int 0, .int 0, .int 0, .ref (v 36), .long 0, .ref (v 38), .ref (v 39), .ref (v 40), .ref (v 41)])), (v 1, .inl (cI, 544, .inl (upd (upd (upd (fun _ => 0) 8 1) 9 1) 17 (-1))))]) (w1 := []) hP hD [0, 1] [2, 3] rfl rfl (by decide) (by decide) hk1 hFc kP0 kD0
  generalize H1 = H at hP hS ⊢
  have hP : va_P (dC, dI) vwCl [(y0, .inr (12, [.int 0, .ref (v 1), .ref (v 2), .ref (v 3), .ref (v 4), .int 0, .ref (v 6), .int 0, .int 0, .int 0, .int 0, .int 0, .int 0, .int (-1), .ref (v 14), .ref (v 15), .ref (v 16), .ref (v 17), .ref (v 18), .ref (v 19), .ref (v 20), .int 0, .ref (v 22), .int 0, .ref (v 24), .ref (v 25), .int 0, .ref (v 27), .ref (v 28), .ref (v 29), .ref (v 30), .int 0, .int 0, .int 0, .int 0, .int 0, .ref (v 36), .long 0, .ref (v 38), .ref (v 39), .ref (v 40), .ref (v 41)])), (v 1, .inl (cI, 544, .inl (upd (upd (upd (fun _ => 0) 8 1) 9 1) 17 (-1))))] H := hP
  have hD : va_D (fun q : Nat => s.heap.size ≤ q) [(y0, .inr (12, [.int 0, .ref (v 1), .ref (v 2), .ref (v 3), .ref (v 4), .int 0, .ref (v 6), .int 0, .int 0, .int 0, .int 0, .int 0, .int 0, .int (-1), .ref (v 14), .ref (v 15), .ref (v 16), .ref (v 17), .ref (v 18), .ref (v 19), .ref (v 20), .int 0, .ref (v 22), .int 0, .ref (v 24), .ref (v 25), .int 0, .ref (v 27), .ref (v 28), .ref (v 29), .ref (v 30), .int 0, .int 0, .int 0, .int 0, .int 0, .ref (v 36), .long 0, .ref (v 38), .ref (v 39), .ref (v 40), .ref (v 41)])), (v 1, .inl (cI, 544, .inl (upd (upd (upd (fun _ => 0) 8 1) 9 1) 17 (-1))))] := hD
  subst hw
  refine lv_aload_n hx hb dL_law_751 rfl (lv_at hl 1 rfl) ?_
  have hPc := hP.sub (ws' := [(y0, .inr (12, [.int 0, .ref (v 1), .ref (v 2), .ref (v 3), .ref (v 4), .int 0, .ref (v 6), .int 0, .int 0, .int 0, .int 0, .int 0, .int 0, .int (-1), .ref (v 14), .ref (v 15), .ref (v 16), .ref (v 17), .ref (v 18), .ref (v 19), .ref (v 20), .int 0, .ref (v 22), .int 0, .ref (v 24), .ref (v 25), .int 0, .ref (v 27), .ref (v 28), .ref (v 29), .ref (v 30), .int 0, .int 0, .int 0, .int 0, .int 0, .ref (v 36), .long 0, .ref (v 38), .ref (v 39), .ref (v 40), .ref (v 41)])), (v 1, .inl (cI, 544, .inl (upd (upd (upd (fun _ => 0) 8 1) 9 1) 17 (-1))))]) [0, 1] rfl
  have hDc := hD.sub (ws' := [(y0, .inr (12, [.int 0, .ref (v 1), .ref (v 2), .ref (v 3), .ref (v 4), .int 0, .ref (v 6), .int 0, .int 0, .int 0, .int 0, .int 0, .int 0, .int (-1), .ref (v 14), .ref (v 15), .ref (v 16), .ref (v 17), .ref (v 18), .ref (v 19), .ref (v 20), .int 0, .ref (v 22), .int 0, .ref (v 24), .ref (v 25), .int 0, .ref (v 27), .ref (v 28), .ref (v 29), .ref (v 30), .int 0, .int 0, .int 0, .int 0, .int 0, .ref (v 36), .long 0, .ref (v 38), .ref (v 39), .ref (v 40), .ref (v 41)])), (v 1, .inl (cI, 544, .inl (upd (upd (upd (fun _ => 0) 8 1) 9 1) 17 (-1))))]) [0, 1] (by decide) rfl
  have hFc := va_free (wc := [(y0, .inr (12, [.int 0, .ref (v 1), .ref (v 2), .ref (v 3), .ref (v 4), .int 0, .ref (v 6), .int 0, .int 0, .int 0, .int 0, .int 0, .int 0, .int (-1), .ref (v 14), .ref (v 15), .ref (v 16), .ref (v 17), .ref (v 18), .ref (v 19), .ref (v 20), .int 0, .ref (v 22), .int 0, .ref (v 24), .ref (v 25), .int 0, .ref (v 27), .ref (v 28), .ref (v 29), .ref (v 30), .int 0, .int 0, .int 0, .int 0, .int 0, .ref (v 36), .long 0, .ref (v 38), .ref (v 39), .ref (v 40), .ref (v 41)])), (v 1, .inl (cI, 544, .inl (upd (upd (upd (fun _ => 0) 8 1) 9 1) 17 (-1))))]) hD hS hA [0, 1] rfl
  refine va_calli (va_runV (As := []) (rest := [.int (-2)]) ⟨hx, hb, hml, hown, hwd⟩ (c_X12_same l dC dI cI cZ cB cJ cM y0 v H.size) (cwV 0 hwd (gV kr22_4 kr22_5 kr22_6 kr1_5 kr22_7) rfl rfl rfl (by decide +kernel) ⟨Nat.le_of_ble_eq_true rfl, Nat.le_of_ble_eq_true rfl⟩) (kPreV hPc hK hDc (ci := 12) (q0 := 0) rfl rfl) rfl rfl hl.1 rfl (lv_room (Nat.le_of_ble_eq_true rfl)) dL_law_752 ⟨Nat.le_of_ble_eq_true rfl, Nat.le_of_ble_eq_true rfl⟩) hS (fun q _ h => hFc q h) hFc (fun r3 u4 t H1 locs ht9 hvm hw hB hz1 hk1 hS => ?_)
  obtain ⟨hP, hD⟩ := va_join (wr := []) (w1 := []) hP hD [0, 1] [] rfl rfl (by decide) (by decide) hk1 hFc kP0 kD0
  generalize H1 = H at hP hS ⊢
  have hP : va_P (dC, dI) vwCl [] H := hP
  have hD : va_D (fun q : Nat => s.heap.size ≤ q) [] := hD
  subst hw
  refine lv_icmp_eq (tgt := 1731) hx hb dL_law_755 (by decide) (fun c5 => ?_) (fun c5 => absurd c5 (by decide))
  exact law_tail C0 hS (lv_sub hl [3, 0] rfl)
set_option maxHeartbeats 4000000 in
set_option maxRecDepth 100000 in
/-- the call of wear on two fresh objects -/
theorem lcase_20 {p : Program} {l : Launch} {e : Env} {s : State} {m : MethodId} {below : List Frame} {meth : Method} {c : Code} {b : Nat} {xs : Nat → Int32} {dC : Nat → ClassId} {dI : Nat → Nat → Nat} {cI cZ cB cJ cM : ClassId} (x0 y0 : Nat) (u v : Nat → Nat) {H : Heap} {locs : List Loc} {ls : Array Slot} (C0 : lw_At p s m meth c b 6 xs) (hK : va_K (dC, dI) vwCl [(cI, .int), (cZ, .boolean), (cB, .byte), (cJ, .long), (cM, .object RX2)] s) (hP : va_P (dC, dI) vwCl [(x0, .inr (11, [.ref (u 0), .ref (u 2), .ref (u 3), .ref (u 4), .ref (u 5), .ref (u 10), .ref (u 11), .ref (u 12), .ref (u 98), .ref (u 124)])), (u 98, .inr (2, [.int 0, .int 0, .int 0, .int 0, .int 0, .int 0, .int 0, .int 0, .int 0, .ref (u 99), .ref (u 107), .ref (u 117), .ref (u 122), .ref (u 123)])), (u 99, .inr (3, [.int 0, .ref (u 100), .ref (u 101), .ref (u 102), .ref (u 103), .ref (u 104), .ref (u 105), .ref (u 106)])), (y0, .inr (12, [.int 0, .ref (v 1), .ref (v 2), .ref (v 3), .ref (v 4), .int 0, .ref (v 6), .int 0, .int 0, .int 0, .int 0, .int 0, .int 0, .int (-1), .ref (v 14), .ref (v 15), .ref (v 16), .ref (v 17), .ref (v 18), .ref (v 19), .ref (v 20), .int 0, .ref (v 22), .int 0, .ref (v 24), .ref (v 25), .int 0, .ref (v 27), .ref (v 28), .ref (v 29), .ref (v 30), .int 0, .int 0, .int 0, .int 0, .int 0, .ref (v 36), .long 0, .ref (v 38), .ref (v 39), .ref (v 40), .ref (v 41)])), (v 1, .inl (cI, 544, .inl (upd (upd (upd (fun _ => 0) 8 1) 9 1) 17 (-1))))] H) (hD : va_D (fun q : Nat => s.heap.size ≤ q) [(x0, .inr (11, [.ref (u 0), .ref (u 2), .ref (u 3), .ref (u 4), .ref (u 5), .ref (u 10), .ref (u 11), .ref (u 12), .ref (u 98), .ref (u 124)])), (u 98, .inr (2, [.int 0, .int 0, .int 0, .int 0, .int 0, .int 0, .int 0, .int 0, .int 0, .ref (u 99), .ref (u 107), .ref (u 117), .ref (u 122), .ref (u 123)])), (u 99, .inr (3, [.int 0, .ref (u 100), .ref (u 101), .ref (u 102), .ref (u 103), .ref (u 104), .ref (u 105), .ref (u 106)])), (y0, .inr (12, [.int 0, .ref (v 1), .ref (v 2), .ref (v 3), .ref (v 4), .int 0, .ref (v 6), .int 0, .int 0, .int 0, .int 0, .int 0, .int 0, .int (-1), .ref (v 14), .ref (v 15), .ref (v 16), .ref (v 17), .ref (v 18), .ref (v 19), .ref (v 20), .int 0, .ref (v 22), .int 0, .ref (v 24), .ref (v 25), .int 0, .ref (v 27), .ref (v 28), .ref (v 29), .ref (v 30), .int 0, .int 0, .int 0, .int 0, .int 0, .ref (v 36), .long 0, .ref (v 38), .ref (v 39), .ref (v 40), .ref (v 41)])), (v 1, .inl (cI, 544, .inl (upd (upd (upd (fun _ => 0) 8 1) 9 1) 17 (-1))))]) (hS : va_S (fun q : Nat => s.heap.size ≤ q) s.heap H locs) (hl : lv_has ls 4 [(3, .int 0), (2, .ref y0), (1, .ref x0), (0, .ref b)]) : W p l e room_1 s m #[Value.ref b] below meth c H locs 600000 7302250 (lw_Z below #[Value.ref b] s) (F0 m 760 ls []) := by
  obtain ⟨hx, hb, hr, hml, hown0, hts, hX, hbl, hlocks, hgv⟩ := id C0
  have hb : c.code = cL_law := hb
  have hown : s.vm.findClass RL = some m.cls := hown0
  have hwd : ∀ wd ∈ wsL_law, wd.before #[Value.ref b] s = true := fun w h => hts w (wsL_law_in w h)
  have hA : ∀ q : Nat, s.heap.size ≤ q → (fun q : Nat => s.heap.size ≤ q) q := fun _ h => h
  have hbA : ¬ (fun q : Nat => s.heap.size ≤ q) b := Nat.not_le.mpr hbl
  refine lv_aload_n hx hb dL_law_760 rfl (lv_at hl 2 rfl) ?_
  refine lv_aload_n hx hb dL_law_761 rfl (lv_at hl 3 rfl) ?_
  refine lv_iload_n hx hb dL_law_762 rfl (lv_at hl 0 rfl) ?_
  refine lv_iconst (v := 1) hx hb dL_law_763 (by decide) ?_
  refine lv_iadd hx hb dL_law_764 ?_
  refine lv_topi (nm_r (e' := (1)) (by decide +kernel) ?_)
  refine va_sld hx hb hX hbl hbA hS (vin (by decide)) dL_law_765 ?_
  refine lv_aload_n hx hb dL_law_766 rfl (lv_at hl 3 rfl) ?_
  refine lv_iload_n hx hb dL_law_767 rfl (lv_at hl 0 rfl) ?_
  refine lv_iconst (v := 2) hx hb dL_law_768 (by decide) ?_
  refine lv_iadd hx hb dL_law_769 ?_
  refine lv_topi (nm_r (e' := (2)) (by decide +kernel) ?_)
  refine va_sld hx hb hX hbl hbA hS (vin (by decide)) dL_law_770 ?_
  have hPc := hP.sub (ws' := [(x0, .inr (11, [.ref (u 0), .ref (u 2), .ref (u 3), .ref (u 4), .ref (u 5), .ref (u 10), .ref (u 11), .ref (u 12), .ref (u 98), .ref (u 124)])), (u 98, .inr (2, [.int 0, .int 0, .int 0, .int 0, .int 0, .int 0, .int 0, .int 0, .int 0, .ref (u 99), .ref (u 107), .ref (u 117), .ref (u 122), .ref (u 123)])), (u 99, .inr (3, [.int 0, .ref (u 100), .ref (u 101), .ref (u 102), .ref (u 103), .ref (u 104), .ref (u 105), .ref (u 106)]))]) [0, 1, 2] rfl
  have hDc := hD.sub (ws' := [(x0, .inr (11, [.ref (u 0), .ref (u 2), .ref (u 3), .ref (u 4), .ref (u 5), .ref (u 10), .ref (u 11), .ref (u 12), .ref (u 98), .ref (u 124)])), (u 98, .inr (2, [.int 0, .int 0, .int 0, .int 0, .int 0, .int 0, .int 0, .int 0, .int 0, .ref (u 99), .ref (u 107), .ref (u 117), .ref (u 122), .ref (u 123)])), (u 99, .inr (3, [.int 0, .ref (u 100), .ref (u 101), .ref (u 102), .ref (u 103), .ref (u 104), .ref (u 105), .ref (u 106)]))]) [0, 1, 2] (by decide) rfl
  have hFc := va_free (wc := [(x0, .inr (11, [.ref (u 0), .ref (u 2), .ref (u 3), .ref (u 4), .ref (u 5), .ref (u 10), .ref (u 11), .ref (u 12), .ref (u 98), .ref (u 124)])), (u 98, .inr (2, [.int 0, .int 0, .int 0, .int 0, .int 0, .int 0, .int 0, .int 0, .int 0, .ref (u 99), .ref (u 107), .ref (u 117), .ref (u 122), .ref (u 123)])), (u 99, .inr (3, [.int 0, .ref (u 100), .ref (u 101), .ref (u 102), .ref (u 103), .ref (u 104), .ref (u 105), .ref (u 106)]))]) hD hS hA [0, 1, 2] rfl
  refine va_calli (va_runV (As := [.int (xs (1 : Int32).toNatClampNeg), .int (xs (2 : Int32).toNatClampNeg)]) (rest := []) ⟨hx, hb, hml, hown, hwd⟩ (c_X11_wear l dC dI cI cZ cB cJ cM x0 (u 0) (u 2) (u 3) (u 4) (u 5) (u 10) (u 11) (u 12) (u 98) (u 124) (u 99) (u 107) (u 117) (u 122) (u 123) (u 100) (u 101) (u 102) (u 103) (u 104) (u 105) (u 106) (xs (1 : Int32).toNatClampNeg) (xs (2 : Int32).toNatClampNeg) H.size) (cwV 2 hwd (gV kr22_8 kr22_9 kr22_10 kr1_2 kr22_11) rfl rfl rfl (by decide +kernel) ⟨Nat.le_of_ble_eq_true rfl, Nat.le_of_ble_eq_true rfl⟩) (kPreV hPc hK hDc (ci := 11) (q0 := 0) rfl rfl) rfl rfl hl.1 rfl (lv_room (Nat.le_of_ble_eq_true rfl)) dL_law_771 ⟨Nat.le_of_ble_eq_true rfl, Nat.le_of_ble_eq_true rfl⟩) hS (fun q _ h => hFc q h) hFc (fun r1 u2 t H1 locs ht9 hvm hw hB hz1 hk1 hS => ?_)
  obtain ⟨hP, hD⟩ := va_join (wr := [(y0, .inr (12, [.int 0, .ref (v 1), .ref (v 2), .ref (v 3), .ref (v 4), .int 0, .ref (v 6), .int 0, .int 0, .int 0, .int 0, .int 0, .int 0, .int (-1), .ref (v 14), .ref (v 15), .ref (v 16), .ref (v 17), .ref (v 18), .ref (v 19), .ref (v 20), .int 0, .ref (v 22), .int 0, .ref (v 24), .ref (v 25), .int 0, .ref (v 27), .ref (v 28), .ref (v 29), .ref (v 30), .int 0, .int 0, .int 0, .int 0, .int 0, .ref (v 36), .long 0, .ref (v 38), .ref (v 39), .ref (v 40), .ref (v 41)])), (v 1, .inl (cI, 544, .inl (upd (upd (upd (fun _ => 0) 8 1) 9 1) 17 (-1))))]) (w1 := []) hP hD [0, 1, 2] [3, 4] rfl rfl (by decide) (by decide) hk1 hFc kP0 kD0
  generalize H1 = H at hP hS ⊢
  have hP : va_P (dC, dI) vwCl [(y0, .inr (12, [.int 0, .ref (v 1), .ref (v 2), .ref (v 3), .ref (v 4), .int 0, .ref (v 6), .int 0, .int 0, .int 0, .int 0, .int 0, .int 0, .int (-1), .ref (v 14), .ref (v 15), .ref (v 16), .ref (v 17), .ref (v 18), .ref (v 19), .ref (v 20), .int 0, .ref (v 22), .int 0, .ref (v 24), .ref (v 25), .int 0, .ref (v 27), .ref (v 28), .ref (v 29), .ref (v 30), .int 0, .int 0, .int 0, .int 0, .int 0, .ref (v 36), .long 0, .ref (v 38), .ref (v 39), .ref (v 40), .ref (v 41)])), (v 1, .inl (cI, 544, .inl (upd (upd (upd (fun _ => 0) 8 1) 9 1) 17 (-1))))] H := hP
  have hD : va_D (fun q : Nat => s.heap.size ≤ q) [(y0, .inr (12, [.int 0, .ref (v 1), .ref (v 2), .ref (v 3), .ref (v 4), .int 0, .ref (v 6), .int 0, .int 0, .int 0, .int 0, .int 0, .int 0, .int (-1), .ref (v 14), .ref (v 15), .ref (v 16), .ref (v 17), .ref (v 18), .ref (v 19), .ref (v 20), .int 0, .ref (v 22), .int 0, .ref (v 24), .ref (v 25), .int 0, .ref (v 27), .ref (v 28), .ref (v 29), .ref (v 30), .int 0, .int 0, .int 0, .int 0, .int 0, .ref (v 36), .long 0, .ref (v 38), .ref (v 39), .ref (v 40), .ref (v 41)])), (v 1, .inl (cI, 544, .inl (upd (upd (upd (fun _ => 0) 8 1) 9 1) 17 (-1))))] := hD
  subst hw
  refine lv_aload_n hx hb dL_law_774 rfl (lv_at hl 1 rfl) ?_
  refine lv_aload_n hx hb dL_law_775 rfl (lv_at hl 3 rfl) ?_
  refine lv_iload_n hx hb dL_law_776 rfl (lv_at hl 0 rfl) ?_
  refine lv_iconst (v := 1) hx hb dL_law_777 (by decide) ?_
  refine lv_iadd hx hb dL_law_778 ?_
  refine lv_topi (nm_r (e' := (1)) (by decide +kernel) ?_)
  refine va_sld hx hb hX hbl hbA hS (vin (by decide)) dL_law_779 ?_
  refine lv_aload_n hx hb dL_law_780 rfl (lv_at hl 3 rfl) ?_
  refine lv_iload_n hx hb dL_law_781 rfl (lv_at hl 0 rfl) ?_
  refine lv_iconst (v := 2) hx hb dL_law_782 (by decide) ?_
  refine lv_iadd hx hb dL_law_783 ?_
  refine lv_topi (nm_r (e' := (2)) (by decide +kernel) ?_)
  refine va_sld hx hb hX hbl hbA hS (vin (by decide)) dL_law_784 ?_
  have hPc := hP.sub (ws' := [(y0, .inr (12, [.int 0, .ref (v 1), .ref (v 2), .ref (v 3), .ref (v 4), .int 0, .ref (v 6), .int 0, .int 0, .int 0, .int 0, .int 0, .int 0, .int (-1), .ref (v 14), .ref (v 15), .ref (v 16), .ref (v 17), .ref (v 18), .ref (v 19), .ref (v 20), .int 0, .ref (v 22), .int 0, .ref (v 24), .ref (v 25), .int 0, .ref (v 27), .ref (v 28), .ref (v 29), .ref (v 30), .int 0, .int 0, .int 0, .int 0, .int 0, .ref (v 36), .long 0, .ref (v 38), .ref (v 39), .ref (v 40), .ref (v 41)])), (v 1, .inl (cI, 544, .inl (upd (upd (upd (fun _ => 0) 8 1) 9 1) 17 (-1))))]) [0, 1] rfl
  have hDc := hD.sub (ws' := [(y0, .inr (12, [.int 0, .ref (v 1), .ref (v 2), .ref (v 3), .ref (v 4), .int 0, .ref (v 6), .int 0, .int 0, .int 0, .int 0, .int 0, .int 0, .int (-1), .ref (v 14), .ref (v 15), .ref (v 16), .ref (v 17), .ref (v 18), .ref (v 19), .ref (v 20), .int 0, .ref (v 22), .int 0, .ref (v 24), .ref (v 25), .int 0, .ref (v 27), .ref (v 28), .ref (v 29), .ref (v 30), .int 0, .int 0, .int 0, .int 0, .int 0, .ref (v 36), .long 0, .ref (v 38), .ref (v 39), .ref (v 40), .ref (v 41)])), (v 1, .inl (cI, 544, .inl (upd (upd (upd (fun _ => 0) 8 1) 9 1) 17 (-1))))]) [0, 1] (by decide) rfl
  have hFc := va_free (wc := [(y0, .inr (12, [.int 0, .ref (v 1), .ref (v 2), .ref (v 3), .ref (v 4), .int 0, .ref (v 6), .int 0, .int 0, .int 0, .int 0, .int 0, .int 0, .int (-1), .ref (v 14), .ref (v 15), .ref (v 16), .ref (v 17), .ref (v 18), .ref (v 19), .ref (v 20), .int 0, .ref (v 22), .int 0, .ref (v 24), .ref (v 25), .int 0, .ref (v 27), .ref (v 28), .ref (v 29), .ref (v 30), .int 0, .int 0, .int 0, .int 0, .int 0, .ref (v 36), .long 0, .ref (v 38), .ref (v 39), .ref (v 40), .ref (v 41)])), (v 1, .inl (cI, 544, .inl (upd (upd (upd (fun _ => 0) 8 1) 9 1) 17 (-1))))]) hD hS hA [0, 1] rfl
  refine va_calli (va_runV (As := [.int (xs (1 : Int32).toNatClampNeg), .int (xs (2 : Int32).toNatClampNeg)]) (rest := [.int (-2)]) ⟨hx, hb, hml, hown, hwd⟩ (c_X12_wear l dC dI cI cZ cB cJ cM y0 v (xs (1 : Int32).toNatClampNeg) (xs (2 : Int32).toNatClampNeg) H.size) (cwV 2 hwd (gV kr22_17 kr22_18 kr22_19 kr1_5 kr22_20) rfl rfl rfl (by decide +kernel) ⟨Nat.le_of_ble_eq_true rfl, Nat.le_of_ble_eq_true rfl⟩) (kPreV hPc hK hDc (ci := 12) (q0 := 0) rfl rfl) rfl rfl hl.1 rfl (lv_room (Nat.le_of_ble_eq_true rfl)) dL_law_785 ⟨Nat.le_of_ble_eq_true rfl, Nat.le_of_ble_eq_true rfl⟩) hS (fun q _ h => hFc q h) hFc (fun r3 u4 t H1 locs ht9 hvm hw hB hz1 hk1 hS => ?_)
  obtain ⟨hP, hD⟩ := va_join (wr := []) (w1 := []) hP hD [0, 1] [] rfl rfl (by decide) (by decide) hk1 hFc kP0 kD0
  generalize H1 = H at hP hS ⊢
  have hP : va_P (dC, dI) vwCl [] H := hP
  have hD : va_D (fun q : Nat => s.heap.size ≤ q) [] := hD
  subst hw
  refine lv_icmp_eq (tgt := 1731) hx hb dL_law_788 (by decide) (fun c5 => ?_) (fun c5 => absurd c5 (by decide))
  exact law_tail C0 hS (lv_sub hl [3, 0] rfl)
set_option maxHeartbeats 4000000 in
set_option maxRecDepth 100000 in
/-- the call of breaks on two fresh objects -/
theorem lcase_21 {p : Program} {l : Launch} {e : Env} {s : State} {m : MethodId} {below : List Frame} {meth : Method} {c : Code} {b : Nat} {xs : Nat → Int32} {dC : Nat → ClassId} {dI : Nat → Nat → Nat} {cI cZ cB cJ cM : ClassId} (x0 y0 : Nat) (u v : Nat → Nat) {H : Heap} {locs : List Loc} {ls : Array Slot} (C0 : lw_At p s m meth c b 6 xs) (hK : va_K (dC, dI) vwCl [(cI, .int), (cZ, .boolean), (cB, .byte), (cJ, .long), (cM, .object RX2)] s) (hP : va_P (dC, dI) vwCl [(x0, .inr (11, [.ref (u 0), .ref (u 2), .ref (u 3), .ref (u 4), .ref (u 5), .ref (u 10), .ref (u 11), .ref (u 12), .ref (u 98), .ref (u 124)])), (u 98, .inr (2, [.int 0, .int 0, .int 0, .int 0, .int 0, .int 0, .int 0, .int 0, .int 0, .ref (u 99), .ref (u 107), .ref (u 117), .ref (u 122), .ref (u 123)])), (u 99, .inr (3, [.int 0, .ref (u 100), .ref (u 101), .ref (u 102), .ref (u 103), .ref (u 104), .ref (u 105), .ref (u 106)])), (y0, .inr (12, [.int 0, .ref (v 1), .ref (v 2), .ref (v 3), .ref (v 4), .int 0, .ref (v 6), .int 0, .int 0, .int 0, .int 0, .int 0, .int 0, .int (-1), .ref (v 14), .ref (v 15), .ref (v 16), .ref (v 17), .ref (v 18), .ref (v 19), .ref (v 20), .int 0, .ref (v 22), .int 0, .ref (v 24), .ref (v 25), .int 0, .ref (v 27), .ref (v 28), .ref (v 29), .ref (v 30), .int 0, .int 0, .int 0, .int 0, .int 0, .ref (v 36), .long 0, .ref (v 38), .ref (v 39), .ref (v 40), .ref (v 41)])), (v 1, .inl (cI, 544, .inl (upd (upd (upd (fun _ => 0) 8 1) 9 1) 17 (-1))))] H) (hD : va_D (fun q : Nat => s.heap.size ≤ q) [(x0, .inr (11, [.ref (u 0), .ref (u 2), .ref (u 3), .ref (u 4), .ref (u 5), .ref (u 10), .ref (u 11), .ref (u 12), .ref (u 98), .ref (u 124)])), (u 98, .inr (2, [.int 0, .int 0, .int 0, .int 0, .int 0, .int 0, .int 0, .int 0, .int 0, .ref (u 99), .ref (u 107), .ref (u 117), .ref (u 122), .ref (u 123)])), (u 99, .inr (3, [.int 0, .ref (u 100), .ref (u 101), .ref (u 102), .ref (u 103), .ref (u 104), .ref (u 105), .ref (u 106)])), (y0, .inr (12, [.int 0, .ref (v 1), .ref (v 2), .ref (v 3), .ref (v 4), .int 0, .ref (v 6), .int 0, .int 0, .int 0, .int 0, .int 0, .int 0, .int (-1), .ref (v 14), .ref (v 15), .ref (v 16), .ref (v 17), .ref (v 18), .ref (v 19), .ref (v 20), .int 0, .ref (v 22), .int 0, .ref (v 24), .ref (v 25), .int 0, .ref (v 27), .ref (v 28), .ref (v 29), .ref (v 30), .int 0, .int 0, .int 0, .int 0, .int 0, .ref (v 36), .long 0, .ref (v 38), .ref (v 39), .ref (v 40), .ref (v 41)])), (v 1, .inl (cI, 544, .inl (upd (upd (upd (fun _ => 0) 8 1) 9 1) 17 (-1))))]) (hS : va_S (fun q : Nat => s.heap.size ≤ q) s.heap H locs) (hl : lv_has ls 4 [(3, .int 0), (2, .ref y0), (1, .ref x0), (0, .ref b)]) : W p l e room_1 s m #[Value.ref b] below meth c H locs 600000 7302250 (lw_Z below #[Value.ref b] s) (F0 m 793 ls []) := by
  obtain ⟨hx, hb, hr, hml, hown0, hts, hX, hbl, hlocks, hgv⟩ := id C0
  have hb : c.code = cL_law := hb
  have hown : s.vm.findClass RL = some m.cls := hown0
  have hwd : ∀ wd ∈ wsL_law, wd.before #[Value.ref b] s = true := fun w h => hts w (wsL_law_in w h)
  have hA : ∀ q : Nat, s.heap.size ≤ q → (fun q : Nat => s.heap.size ≤ q) q := fun _ h => h
  have hbA : ¬ (fun q : Nat => s.heap.size ≤ q) b := Nat.not_le.mpr hbl
  refine lv_aload_n hx hb dL_law_793 rfl (lv_at hl 2 rfl) ?_
  refine lv_aload_n hx hb dL_law_794 rfl (lv_at hl 3 rfl) ?_
  refine lv_iload_n hx hb dL_law_795 rfl (lv_at hl 0 rfl) ?_
  refine lv_iconst (v := 1) hx hb dL_law_796 (by decide) ?_
  refine lv_iadd hx hb dL_law_797 ?_
  refine lv_topi (nm_r (e' := (1)) (by decide +kernel) ?_)
  refine va_sld hx hb hX hbl hbA hS (vin (by decide)) dL_law_798 ?_
  refine lv_aload_n hx hb dL_law_799 rfl (lv_at hl 3 rfl) ?_
  refine lv_iload_n hx hb dL_law_800 rfl (lv_at hl 0 rfl) ?_
  refine lv_iconst (v := 2) hx hb dL_law_801 (by decide) ?_
  refine lv_iadd hx hb dL_law_802 ?_
  refine lv_topi (nm_r (e' := (2)) (by decide +kernel) ?_)
  refine va_sld hx hb hX hbl hbA hS (vin (by decide)) dL_law_803 ?_
  refine lv_if_eq (tgt := 811) hx hb dL_law_804 (by decide) (fun c1 => ?_) (fun c1 => ?_)
  · refine lv_iconst (v := 0) hx hb dL_law_811 (by decide) ?_
    have hPc := hP.sub (ws' := [(x0, .inr (11, [.ref (u 0), .ref (u 2), .ref (u 3), .ref (u 4), .ref (u 5), .ref (u 10), .ref (u 11), .ref (u 12), .ref (u 98), .ref (u 124)])), (u 98, .inr (2, [.int 0, .int 0, .int 0, .int 0, .int 0, .int 0, .int 0, .int 0, .int 0, .ref (u 99), .ref (u 107), .ref (u 117), .ref (u 122), .ref (u 123)])), (u 99, .inr (3, [.int 0, .ref (u 100), .ref (u 101), .ref (u 102), .ref (u 103), .ref (u 104), .ref (u 105), .ref (u 106)]))]) [0, 1, 2] rfl
    have hDc := hD.sub (ws' := [(x0, .inr (11, [.ref (u 0), .ref (u 2), .ref (u 3), .ref (u 4), .ref (u 5), .ref (u 10), .ref (u 11), .ref (u 12), .ref (u 98), .ref (u 124)])), (u 98, .inr (2, [.int 0, .int 0, .int 0, .int 0, .int 0, .int 0, .int 0, .int 0, .int 0, .ref (u 99), .ref (u 107), .ref (u 117), .ref (u 122), .ref (u 123)])), (u 99, .inr (3, [.int 0, .ref (u 100), .ref (u 101), .ref (u 102), .ref (u 103), .ref (u 104), .ref (u 105), .ref (u 106)]))]) [0, 1, 2] (by decide) rfl
    have hFc := va_free (wc := [(x0, .inr (11, [.ref (u 0), .ref (u 2), .ref (u 3), .ref (u 4), .ref (u 5), .ref (u 10), .ref (u 11), .ref (u 12), .ref (u 98), .ref (u 124)])), (u 98, .inr (2, [.int 0, .int 0, .int 0, .int 0, .int 0, .int 0, .int 0, .int 0, .int 0, .ref (u 99), .ref (u 107), .ref (u 117), .ref (u 122), .ref (u 123)])), (u 99, .inr (3, [.int 0, .ref (u 100), .ref (u 101), .ref (u 102), .ref (u 103), .ref (u 104), .ref (u 105), .ref (u 106)]))]) hD hS hA [0, 1, 2] rfl
    refine va_calli (va_runV (As := [.int (xs (1 : Int32).toNatClampNeg), .int 0]) (rest := []) ⟨hx, hb, hml, hown, hwd⟩ (c_X11_breaks l dC dI cI cZ cB cJ cM x0 (u 0) (u 2) (u 3) (u 4) (u 5) (u 10) (u 11) (u 12) (u 98) (u 124) (u 99) (u 107) (u 117) (u 122) (u 123) (u 100) (u 101) (u 102) (u 103) (u 104) (u 105) (u 106) (xs (1 : Int32).toNatClampNeg) 0 H.size) (cwV 2 hwd (gV kr23_1 kr23_2 kr23_3 kr1_2 kr23_4) rfl rfl rfl (by decide +kernel) ⟨Nat.le_of_ble_eq_true rfl, Nat.le_of_ble_eq_true rfl⟩) (kPreV hPc hK hDc (ci := 11) (q0 := 0) rfl rfl) rfl rfl hl.1 rfl (lv_room (Nat.le_of_ble_eq_true rfl)) dL_law_812 ⟨Nat.le_of_ble_eq_true rfl, Nat.le_of_ble_eq_true rfl⟩) hS (fun q _ h => hFc q h) hFc (fun r2 u3 t H1 locs ht9 hvm hw hB hz1 hk1 hS => ?_)
    obtain ⟨hP, hD⟩ := va_join (wr := [(y0, .inr (12, [.int 0, .ref (v 1), .ref (v 2), .ref (v 3), .ref (v 4), .int 0, .ref (v 6), .int 0, .int 0, .int 0, .int 0, .int 0, .int 0, .int (-1), .ref (v 14), .ref (v 15), .ref (v 16), .ref (v 17), .ref (v 18), .ref (v 19), .ref (v 20), .int 0, .ref (v 22), .int 0, .ref (v 24), .ref (v 25), .int 0, .ref (v 27), .ref (v 28), .ref (v 29), .ref (v 30), .int 0, .int 0, .int 0, .int 0, .int 0, .ref (v 36), .long 0, .ref (v 38), .ref (v 39), .ref (v 40), .ref (v 41)])), (v 1, .inl (cI, 544, .inl (upd (upd (upd (fun _ => 0) 8 1) 9 1) 17 (-1))))]) (w1 := []) hP hD [0, 1, 2] [3, 4] rfl rfl (by decide) (by decide) hk1 hFc kP0 kD0
    generalize H1 = H at hP hS ⊢
    have hP : va_P (dC, dI) vwCl [(y0, .inr (12, [.int 0, .ref (v 1), .ref (v 2), .ref (v 3), .ref (v 4), .int 0, .ref (v 6), .int 0, .int 0, .int 0, .int 0, .int 0, .int 0, .int (-1), .ref (v 14), .ref (v 15), .ref (v 16), .ref (v 17), .ref (v 18), .ref (v 19), .ref (v 20), .int 0, .ref (v 22), .int 0, .ref (v 24), .ref (v 25), .int 0, .ref (v 27), .ref (v 28), .ref (v 29), .ref (v 30), .int 0, .int 0, .int 0, .int 0, .int 0, .ref (v 36), .long 0, .ref (v 38), .ref (v 39), .ref (v 40), .ref (v 41)])), (v 1, .inl (cI, 544, .inl (upd (upd (upd (fun _ => 0) 8 1) 9 1) 17 (-1))))] H := hP
    have hD : va_D (fun q : Nat => s.heap.size ≤ q) [(y0, .inr (12, [.int 0, .ref (v 1), .ref (v 2), .ref (v 3), .ref (v 4), .int 0, .ref (v 6), .int 0, .int 0, .int 0, .int 0, .int 0, .int 0, .int (-1), .ref (v 14), .ref (v 15), .ref (v 16), .ref (v 17), .ref (v 18), .ref (v 19), .ref (v 20), .int 0, .ref (v 22), .int 0, .ref (v 24), .ref (v 25), .int 0, .ref (v 27), .ref (v 28), .ref (v 29), .ref (v 30), .int 0, .int 0, .int 0, .int 0, .int 0, .ref (v 36), .long 0, .ref (v 38), .ref (v 39), .ref (v 40), .ref (v 41)])), (v 1, .inl (cI, 544, .inl (upd (upd (upd (fun _ => 0) 8 1) 9 1) 17 (-1))))] := hD
    subst hw
    refine lv_aload_n hx hb dL_law_815 rfl (lv_at hl 1 rfl) ?_
    refine lv_aload_n hx hb dL_law_816 rfl (lv_at hl 3 rfl) ?_
    refine lv_iload_n hx hb dL_law_817 rfl (lv_at hl 0 rfl) ?_
    refine lv_iconst (v := 1) hx hb dL_law_818 (by decide) ?_
    refine lv_iadd hx hb dL_law_819 ?_
    refine lv_topi (nm_r (e' := (1)) (by decide +kernel) ?_)
    refine va_sld hx hb hX hbl hbA hS (vin (by decide)) dL_law_820 ?_
    refine lv_aload_n hx hb dL_law_821 rfl (lv_at hl 3 rfl) ?_
    refine lv_iload_n hx hb dL_law_822 rfl (lv_at hl 0 rfl) ?_
    refine lv_iconst (v := 2) hx hb dL_law_823 (by decide) ?_
    refine lv_iadd hx hb dL_law_824 ?_
    refine lv_topi (nm_r (e' := (2)) (by decide +kernel) ?_)
    refine va_sld hx hb hX hbl hbA hS (vin (by decide)) dL_law_825 ?_
    refine lv_if_eq (tgt := 833) hx hb dL_law_826 (by decide) (fun c4 => ?_) (fun c4 => ?_)
    · refine lv_iconst (v := 0) hx hb dL_law_833 (by decide) ?_
      have hPc := hP.sub (ws' := [(y0, .inr (12, [.int 0, .ref (v 1), .ref (v 2), .ref (v 3), .ref (v 4), .int 0, .ref (v 6), .int 0, .int 0, .int 0, .int 0, .int 0, .int 0, .int (-1), .ref (v 14), .ref (v 15), .ref (v 16), .ref (v 17), .ref (v 18), .ref (v 19), .ref (v 20), .int 0, .ref (v 22), .int 0, .ref (v 24), .ref (v 25), .int 0, .ref (v 27), .ref (v 28), .ref (v 29), .ref (v 30), .int 0, .int 0, .int 0, .int 0, .int 0, .ref (v 36), .long 0, .ref (v 38), .ref (v 39), .ref (v 40), .ref (v 41)])), (v 1, .inl (cI, 544, .inl (upd (upd (upd (fun _ => 0) 8 1) 9 1) 17 (-1))))]) [0, 1] rfl
      have hDc := hD.sub (ws' := [(y0, .inr (12, [.int 0, .ref (v 1), .ref (v 2), .ref (v 3), .ref (v 4), .int 0, .ref (v 6), .int 0, .int 0, .int 0, .int 0, .int 0, .int 0, .int (-1), .ref (v 14), .ref (v 15), .ref (v 16), .ref (v 17), .ref (v 18), .ref (v 19), .ref (v 20), .int 0, .ref (v 22), .int 0, .ref (v 24), .ref (v 25), .int 0, .ref (v 27), .ref (v 28), .ref (v 29), .ref (v 30), .int 0, .int 0, .int 0, .int 0, .int 0, .ref (v 36), .long 0, .ref (v 38), .ref (v 39), .ref (v 40), .ref (v 41)])), (v 1, .inl (cI, 544, .inl (upd (upd (upd (fun _ => 0) 8 1) 9 1) 17 (-1))))]) [0, 1] (by decide) rfl
      have hFc := va_free (wc := [(y0, .inr (12, [.int 0, .ref (v 1), .ref (v 2), .ref (v 3), .ref (v 4), .int 0, .ref (v 6), .int 0, .int 0, .int 0, .int 0, .int 0, .int 0, .int (-1), .ref (v 14), .ref (v 15), .ref (v 16), .ref (v 17), .ref (v 18), .ref (v 19), .ref (v 20), .int 0, .ref (v 22), .int 0, .ref (v 24), .ref (v 25), .int 0, .ref (v 27), .ref (v 28), .ref (v 29), .ref (v 30), .int 0, .int 0, .int 0, .int 0, .int 0, .ref (v 36), .long 0, .ref (v 38), .ref (v 39), .ref (v 40), .ref (v 41)])), (v 1, .inl (cI, 544, .inl (upd (upd (upd (fun _ => 0) 8 1) 9 1) 17 (-1))))]) hD hS hA [0, 1] rfl
      refine va_calli (va_runV (As := [.int (xs (1 : Int32).toNatClampNeg), .int 0]) (rest := [.int (-2)]) ⟨hx, hb, hml, hown, hwd⟩ (c_X12_breaks l dC dI cI cZ cB cJ cM y0 v (xs (1 : Int32).toNatClampNeg) 0 H.size) (cwV 2 hwd (gV kr23_5 kr23_6 kr23_7 kr1_5 kr23_8) rfl rfl rfl (by decide +kernel) ⟨Nat.le_of_ble_eq_true rfl, Nat.le_of_ble_eq_true rfl⟩) (kPreV hPc hK hDc (ci := 12) (q0 := 0) rfl rfl) rfl rfl hl.1 rfl (lv_room (Nat.le_of_ble_eq_true rfl)) dL_law_834 ⟨Nat.le_of_ble_eq_true rfl, Nat.le_of_ble_eq_true rfl⟩) hS (fun q _ h => hFc q h) hFc (fun r5 u6 t H1 locs ht9 hvm hw hB hz1 hk1 hS => ?_)
      obtain ⟨hP, hD⟩ := va_join (wr := []) (w1 := []) hP hD [0, 1] [] rfl rfl (by decide) (by decide) hk1 hFc kP0 kD0
      generalize H1 = H at hP hS ⊢
      have hP : va_P (dC, dI) vwCl [] H := hP
      have hD : va_D (fun q : Nat => s.heap.size ≤ q) [] := hD
      subst hw
      refine lv_icmp_eq (tgt := 1731) hx hb dL_law_837 (by decide) (fun c7 => ?_) (fun c7 => absurd c7 (by decide))
      exact law_tail C0 hS (lv_sub hl [3, 0] rfl)
    · refine lv_iconst (v := 1) hx hb dL_law_829 (by decide) ?_
      refine lv_goto (tgt := 834) hx hb dL_law_830 (by decide) ?_
      have hPc := hP.sub (ws' := [(y0, .inr (12, [.int 0, .ref (v 1), .ref (v 2), .ref (v 3), .ref (v 4), .int 0, .ref (v 6), .int 0, .int 0, .int 0, .int 0, .int 0, .int 0, .int (-1), .ref (v 14), .ref (v 15), .ref (v 16), .ref (v 17), .ref (v 18), .ref (v 19), .ref (v 20), .int 0, .ref (v 22), .int 0, .ref (v 24), .ref (v 25), .int 0, .ref (v 27), .ref (v 28), .ref (v 29), .ref (v 30), .int 0, .int 0, .int 0, .int 0, .int 0, .ref (v 36), .long 0, .ref (v 38), .ref (v 39), .ref (v 40), .ref (v 41)])), (v 1, .inl (cI, 544, .inl (upd (upd (upd (fun _ => 0) 8 1) 9 1) 17 (-1))))]) [0, 1] rfl
      have hDc := hD.sub (ws' := [(y0, .inr (12, [.int 0, .ref (v 1), .ref (v 2), .ref (v 3), .ref (v 4), .int 0, .ref (v 6), .int 0, .int 0, .int 0, .int 0, .int 0, .int 0, .int (-1), .ref (v 14), .ref (v 15), .ref (v 16), .ref (v 17), .ref (v 18), .ref (v 19), .ref (v 20), .int 0, .ref (v 22), .int 0, .ref (v 24), .ref (v 25), .int 0, .ref (v 27), .ref (v 28), .ref (v 29), .ref (v 30), .int 0, .int 0, .int 0, .int 0, .int 0, .ref (v 36), .long 0, .ref (v 38), .ref (v 39), .ref (v 40), .ref (v 41)])), (v 1, .inl (cI, 544, .inl (upd (upd (upd (fun _ => 0) 8 1) 9 1) 17 (-1))))]) [0, 1] (by decide) rfl
      have hFc := va_free (wc := [(y0, .inr (12, [.int 0, .ref (v 1), .ref (v 2), .ref (v 3), .ref (v 4), .int 0, .ref (v 6), .int 0, .int 0, .int 0, .int 0, .int 0, .int 0, .int (-1), .ref (v 14), .ref (v 15), .ref (v 16), .ref (v 17), .ref (v 18), .ref (v 19), .ref (v 20), .int 0, .ref (v 22), .int 0, .ref (v 24), .ref (v 25), .int 0, .ref (v 27), .ref (v 28), .ref (v 29), .ref (v 30), .int 0, .int 0, .int 0, .int 0, .int 0, .ref (v 36), .long 0, .ref (v 38), .ref (v 39), .ref (v 40), .ref (v 41)])), (v 1, .inl (cI, 544, .inl (upd (upd (upd (fun _ => 0) 8 1) 9 1) 17 (-1))))]) hD hS hA [0, 1] rfl
      refine va_calli (va_runV (As := [.int (xs (1 : Int32).toNatClampNeg), .int 1]) (rest := [.int (-2)]) ⟨hx, hb, hml, hown, hwd⟩ (c_X12_breaks l dC dI cI cZ cB cJ cM y0 v (xs (1 : Int32).toNatClampNeg) 1 H.size) (cwV 2 hwd (gV kr23_5 kr23_6 kr23_7 kr1_5 kr23_8) rfl rfl rfl (by decide +kernel) ⟨Nat.le_of_ble_eq_true rfl, Nat.le_of_ble_eq_true rfl⟩) (kPreV hPc hK hDc (ci := 12) (q0 := 0) rfl rfl) rfl rfl hl.1 rfl (lv_room (Nat.le_of_ble_eq_true rfl)) dL_law_834 ⟨Nat.le_of_ble_eq_true rfl, Nat.le_of_ble_eq_true rfl⟩) hS (fun q _ h => hFc q h) hFc (fun r8 u9 t H1 locs ht9 hvm hw hB hz1 hk1 hS => ?_)
      obtain ⟨hP, hD⟩ := va_join (wr := []) (w1 := []) hP hD [0, 1] [] rfl rfl (by decide) (by decide) hk1 hFc kP0 kD0
      generalize H1 = H at hP hS ⊢
      have hP : va_P (dC, dI) vwCl [] H := hP
      have hD : va_D (fun q : Nat => s.heap.size ≤ q) [] := hD
      subst hw
      refine lv_icmp_eq (tgt := 1731) hx hb dL_law_837 (by decide) (fun c10 => ?_) (fun c10 => absurd c10 (by decide))
      exact law_tail C0 hS (lv_sub hl [3, 0] rfl)
  · refine lv_iconst (v := 1) hx hb dL_law_807 (by decide) ?_
    refine lv_goto (tgt := 812) hx hb dL_law_808 (by decide) ?_
    have hPc := hP.sub (ws' := [(x0, .inr (11, [.ref (u 0), .ref (u 2), .ref (u 3), .ref (u 4), .ref (u 5), .ref (u 10), .ref (u 11), .ref (u 12), .ref (u 98), .ref (u 124)])), (u 98, .inr (2, [.int 0, .int 0, .int 0, .int 0, .int 0, .int 0, .int 0, .int 0, .int 0, .ref (u 99), .ref (u 107), .ref (u 117), .ref (u 122), .ref (u 123)])), (u 99, .inr (3, [.int 0, .ref (u 100), .ref (u 101), .ref (u 102), .ref (u 103), .ref (u 104), .ref (u 105), .ref (u 106)]))]) [0, 1, 2] rfl
    have hDc := hD.sub (ws' := [(x0, .inr (11, [.ref (u 0), .ref (u 2), .ref (u 3), .ref (u 4), .ref (u 5), .ref (u 10), .ref (u 11), .ref (u 12), .ref (u 98), .ref (u 124)])), (u 98, .inr (2, [.int 0, .int 0, .int 0, .int 0, .int 0, .int 0, .int 0, .int 0, .int 0, .ref (u 99), .ref (u 107), .ref (u 117), .ref (u 122), .ref (u 123)])), (u 99, .inr (3, [.int 0, .ref (u 100), .ref (u 101), .ref (u 102), .ref (u 103), .ref (u 104), .ref (u 105), .ref (u 106)]))]) [0, 1, 2] (by decide) rfl
    have hFc := va_free (wc := [(x0, .inr (11, [.ref (u 0), .ref (u 2), .ref (u 3), .ref (u 4), .ref (u 5), .ref (u 10), .ref (u 11), .ref (u 12), .ref (u 98), .ref (u 124)])), (u 98, .inr (2, [.int 0, .int 0, .int 0, .int 0, .int 0, .int 0, .int 0, .int 0, .int 0, .ref (u 99), .ref (u 107), .ref (u 117), .ref (u 122), .ref (u 123)])), (u 99, .inr (3, [.int 0, .ref (u 100), .ref (u 101), .ref (u 102), .ref (u 103), .ref (u 104), .ref (u 105), .ref (u 106)]))]) hD hS hA [0, 1, 2] rfl
    refine va_calli (va_runV (As := [.int (xs (1 : Int32).toNatClampNeg), .int 1]) (rest := []) ⟨hx, hb, hml, hown, hwd⟩ (c_X11_breaks l dC dI cI cZ cB cJ cM x0 (u 0) (u 2) (u 3) (u 4) (u 5) (u 10) (u 11) (u 12) (u 98) (u 124) (u 99) (u 107) (u 117) (u 122) (u 123) (u 100) (u 101) (u 102) (u 103) (u 104) (u 105) (u 106) (xs (1 : Int32).toNatClampNeg) 1 H.size) (cwV 2 hwd (gV kr23_1 kr23_2 kr23_3 kr1_2 kr23_4) rfl rfl rfl (by decide +kernel) ⟨Nat.le_of_ble_eq_true rfl, Nat.le_of_ble_eq_true rfl⟩) (kPreV hPc hK hDc (ci := 11) (q0 := 0) rfl rfl) rfl rfl hl.1 rfl (lv_room (Nat.le_of_ble_eq_true rfl)) dL_law_812 ⟨Nat.le_of_ble_eq_true rfl, Nat.le_of_ble_eq_true rfl⟩) hS (fun q _ h => hFc q h) hFc (fun r11 u12 t H1 locs ht9 hvm hw hB hz1 hk1 hS => ?_)
    obtain ⟨hP, hD⟩ := va_join (wr := [(y0, .inr (12, [.int 0, .ref (v 1), .ref (v 2), .ref (v 3), .ref (v 4), .int 0, .ref (v 6), .int 0, .int 0, .int 0, .int 0, .int 0, .int 0, .int (-1), .ref (v 14), .ref (v 15), .ref (v 16), .ref (v 17), .ref (v 18), .ref (v 19), .ref (v 20), .int 0, .ref (v 22), .int 0, .ref (v 24), .ref (v 25), .int 0, .ref (v 27), .ref (v 28), .ref (v 29), .ref (v 30), .int 0, .int 0, .int 0, .int 0, .int 0, .ref (v 36), .long 0, .ref (v 38), .ref (v 39), .ref (v 40), .ref (v 41)])), (v 1, .inl (cI, 544, .inl (upd (upd (upd (fun _ => 0) 8 1) 9 1) 17 (-1))))]) (w1 := []) hP hD [0, 1, 2] [3, 4] rfl rfl (by decide) (by decide) hk1 hFc kP0 kD0
    generalize H1 = H at hP hS ⊢
    have hP : va_P (dC, dI) vwCl [(y0, .inr (12, [.int 0, .ref (v 1), .ref (v 2), .ref (v 3), .ref (v 4), .int 0, .ref (v 6), .int 0, .int 0, .int 0, .int 0, .int 0, .int 0, .int (-1), .ref (v 14), .ref (v 15), .ref (v 16), .ref (v 17), .ref (v 18), .ref (v 19), .ref (v 20), .int 0, .ref (v 22), .int 0, .ref (v 24), .ref (v 25), .int 0, .ref (v 27), .ref (v 28), .ref (v 29), .ref (v 30), .int 0, .int 0, .int 0, .int 0, .int 0, .ref (v 36), .long 0, .ref (v 38), .ref (v 39), .ref (v 40), .ref (v 41)])), (v 1, .inl (cI, 544, .inl (upd (upd (upd (fun _ => 0) 8 1) 9 1) 17 (-1))))] H := hP
    have hD : va_D (fun q : Nat => s.heap.size ≤ q) [(y0, .inr (12, [.int 0, .ref (v 1), .ref (v 2), .ref (v 3), .ref (v 4), .int 0, .ref (v 6), .int 0, .int 0, .int 0, .int 0, .int 0, .int 0, .int (-1), .ref (v 14), .ref (v 15), .ref (v 16), .ref (v 17), .ref (v 18), .ref (v 19), .ref (v 20), .int 0, .ref (v 22), .int 0, .ref (v 24), .ref (v 25), .int 0, .ref (v 27), .ref (v 28), .ref (v 29), .ref (v 30), .int 0, .int 0, .int 0, .int 0, .int 0, .ref (v 36), .long 0, .ref (v 38), .ref (v 39), .ref (v 40), .ref (v 41)])), (v 1, .inl (cI, 544, .inl (upd (upd (upd (fun _ => 0) 8 1) 9 1) 17 (-1))))] := hD
    subst hw
    refine lv_aload_n hx hb dL_law_815 rfl (lv_at hl 1 rfl) ?_
    refine lv_aload_n hx hb dL_law_816 rfl (lv_at hl 3 rfl) ?_
    refine lv_iload_n hx hb dL_law_817 rfl (lv_at hl 0 rfl) ?_
    refine lv_iconst (v := 1) hx hb dL_law_818 (by decide) ?_
    refine lv_iadd hx hb dL_law_819 ?_
    refine lv_topi (nm_r (e' := (1)) (by decide +kernel) ?_)
    refine va_sld hx hb hX hbl hbA hS (vin (by decide)) dL_law_820 ?_
    refine lv_aload_n hx hb dL_law_821 rfl (lv_at hl 3 rfl) ?_
    refine lv_iload_n hx hb dL_law_822 rfl (lv_at hl 0 rfl) ?_
    refine lv_iconst (v := 2) hx hb dL_law_823 (by decide) ?_
    refine lv_iadd hx hb dL_law_824 ?_
    refine lv_topi (nm_r (e' := (2)) (by decide +kernel) ?_)
    refine va_sld hx hb hX hbl hbA hS (vin (by decide)) dL_law_825 ?_
    refine lv_if_eq (tgt := 833) hx hb dL_law_826 (by decide) (fun c13 => ?_) (fun c13 => ?_)
    · refine lv_iconst (v := 0) hx hb dL_law_833 (by decide) ?_
      have hPc := hP.sub (ws' := [(y0, .inr (12, [.int 0, .ref (v 1), .ref (v 2), .ref (v 3), .ref (v 4), .int 0, .ref (v 6), .int 0, .int 0, .int 0, .int 0, .int 0, .int 0, .int (-1), .ref (v 14), .ref (v 15), .ref (v 16), .ref (v 17), .ref (v 18), .ref (v 19), .ref (v 20), .int 0, .ref (v 22), .int 0, .ref (v 24), .ref (v 25), .int 0, .ref (v 27), .ref (v 28), .ref (v 29), .ref (v 30), .int 0, .int 0, .int 0, .int 0, .int 0, .ref (v 36), .long 0, .ref (v 38), .ref (v 39), .ref (v 40), .ref (v 41)])), (v 1, .inl (cI, 544, .inl (upd (upd (upd (fun _ => 0) 8 1) 9 1) 17 (-1))))]) [0, 1] rfl
      have hDc := hD.sub (ws' := [(y0, .inr (12, [.int 0, .ref (v 1), .ref (v 2), .ref (v 3), .ref (v 4), .int 0, .ref (v 6), .int 0, .int 0, .int 0, .int 0, .int 0, .int 0, .int (-1), .ref (v 14), .ref (v 15), .ref (v 16), .ref (v 17), .ref (v 18), .ref (v 19), .ref (v 20), .int 0, .ref (v 22), .int 0, .ref (v 24), .ref (v 25), .int 0, .ref (v 27), .ref (v 28), .ref (v 29), .ref (v 30), .int 0, .int 0, .int 0, .int 0, .int 0, .ref (v 36), .long 0, .ref (v 38), .ref (v 39), .ref (v 40), .ref (v 41)])), (v 1, .inl (cI, 544, .inl (upd (upd (upd (fun _ => 0) 8 1) 9 1) 17 (-1))))]) [0, 1] (by decide) rfl
      have hFc := va_free (wc := [(y0, .inr (12, [.int 0, .ref (v 1), .ref (v 2), .ref (v 3), .ref (v 4), .int 0, .ref (v 6), .int 0, .int 0, .int 0, .int 0, .int 0, .int 0, .int (-1), .ref (v 14), .ref (v 15), .ref (v 16), .ref (v 17), .ref (v 18), .ref (v 19), .ref (v 20), .int 0, .ref (v 22), .int 0, .ref (v 24), .ref (v 25), .int 0, .ref (v 27), .ref (v 28), .ref (v 29), .ref (v 30), .int 0, .int 0, .int 0, .int 0, .int 0, .ref (v 36), .long 0, .ref (v 38), .ref (v 39), .ref (v 40), .ref (v 41)])), (v 1, .inl (cI, 544, .inl (upd (upd (upd (fun _ => 0) 8 1) 9 1) 17 (-1))))]) hD hS hA [0, 1] rfl
      refine va_calli (va_runV (As := [.int (xs (1 : Int32).toNatClampNeg), .int 0]) (rest := [.int (-2)]) ⟨hx, hb, hml, hown, hwd⟩ (c_X12_breaks l dC dI cI cZ cB cJ cM y0 v (xs (1 : Int32).toNatClampNeg) 0 H.size) (cwV 2 hwd (gV kr23_5 kr23_6 kr23_7 kr1_5 kr23_8) rfl rfl rfl (by decide +kernel) ⟨Nat.le_of_ble_eq_true rfl, Nat.le_of_ble_eq_true rfl⟩) (kPreV hPc hK hDc (ci := 12) (q0 := 0) rfl rfl) rfl rfl hl.1 rfl (lv_room (Nat.le_of_ble_eq_true rfl)) dL_law_834 ⟨Nat.le_of_ble_eq_true rfl, Nat.le_of_ble_eq_true rfl⟩) hS (fun q _ h => hFc q h) hFc (fun r14 u15 t H1 locs ht9 hvm hw hB hz1 hk1 hS => ?_)
      obtain ⟨hP, hD⟩ := va_join (wr := []) (w1 := []) hP hD [0, 1] [] rfl rfl (by decide) (by decide) hk1 hFc kP0 kD0
      generalize H1 = H at hP hS ⊢
      have hP : va_P (dC, dI) vwCl [] H := hP
      have hD : va_D (fun q : Nat => s.heap.size ≤ q) [] := hD
      subst hw
      refine lv_icmp_eq (tgt := 1731) hx hb dL_law_837 (by decide) (fun c16 => ?_) (fun c16 => absurd c16 (by decide))
      exact law_tail C0 hS (lv_sub hl [3, 0] rfl)
    · refine lv_iconst (v := 1) hx hb dL_law_829 (by decide) ?_
      refine lv_goto (tgt := 834) hx hb dL_law_830 (by decide) ?_
      have hPc := hP.sub (ws' := [(y0, .inr (12, [.int 0, .ref (v 1), .ref (v 2), .ref (v 3), .ref (v 4), .int 0, .ref (v 6), .int 0, .int 0, .int 0, .int 0, .int 0, .int 0, .int (-1), .ref (v 14), .ref (v 15), .ref (v 16), .ref (v 17), .ref (v 18), .ref (v 19), .ref (v 20), .int 0, .ref (v 22), .int 0, .ref (v 24), .ref (v 25), .int 0, .ref (v 27), .ref (v 28), .ref (v 29), .ref (v 30), .int 0, .int 0, .int 0, .int 0, .int 0, .ref (v 36), .long 0, .ref (v 38), .ref (v 39), .ref (v 40), .ref (v 41)])), (v 1, .inl (cI, 544, .inl (upd (upd (upd (fun _ => 0) 8 1) 9 1) 17 (-1))))]) [0, 1] rfl
      have hDc := hD.sub (ws' := [(y0, .inr (12, [.int 0, .ref (v 1), .ref (v 2), .ref (v 3), .ref (v 4), .int 0, .ref (v 6), .int 0, .int 0, .int 0, .int 0, .int 0, .int 0, .int (-1), .ref (v 14), .ref (v 15), .ref (v 16), .ref (v 17), .ref (v 18), .ref (v 19), .ref (v 20), .int 0, .ref (v 22), .int 0, .ref (v 24), .ref (v 25), .int 0, .ref (v 27), .ref (v 28), .ref (v 29), .ref (v 30), .int 0, .int 0, .int 0, .int 0, .int 0, .ref (v 36), .long 0, .ref (v 38), .ref (v 39), .ref (v 40), .ref (v 41)])), (v 1, .inl (cI, 544, .inl (upd (upd (upd (fun _ => 0) 8 1) 9 1) 17 (-1))))]) [0, 1] (by decide) rfl
      have hFc := va_free (wc := [(y0, .inr (12, [.int 0, .ref (v 1), .ref (v 2), .ref (v 3), .ref (v 4), .int 0, .ref (v 6), .int 0, .int 0, .int 0, .int 0, .int 0, .int 0, .int (-1), .ref (v 14), .ref (v 15), .ref (v 16), .ref (v 17), .ref (v 18), .ref (v 19), .ref (v 20), .int 0, .ref (v 22), .int 0, .ref (v 24), .ref (v 25), .int 0, .ref (v 27), .ref (v 28), .ref (v 29), .ref (v 30), .int 0, .int 0, .int 0, .int 0, .int 0, .ref (v 36), .long 0, .ref (v 38), .ref (v 39), .ref (v 40), .ref (v 41)])), (v 1, .inl (cI, 544, .inl (upd (upd (upd (fun _ => 0) 8 1) 9 1) 17 (-1))))]) hD hS hA [0, 1] rfl
      refine va_calli (va_runV (As := [.int (xs (1 : Int32).toNatClampNeg), .int 1]) (rest := [.int (-2)]) ⟨hx, hb, hml, hown, hwd⟩ (c_X12_breaks l dC dI cI cZ cB cJ cM y0 v (xs (1 : Int32).toNatClampNeg) 1 H.size) (cwV 2 hwd (gV kr23_5 kr23_6 kr23_7 kr1_5 kr23_8) rfl rfl rfl (by decide +kernel) ⟨Nat.le_of_ble_eq_true rfl, Nat.le_of_ble_eq_true rfl⟩) (kPreV hPc hK hDc (ci := 12) (q0 := 0) rfl rfl) rfl rfl hl.1 rfl (lv_room (Nat.le_of_ble_eq_true rfl)) dL_law_834 ⟨Nat.le_of_ble_eq_true rfl, Nat.le_of_ble_eq_true rfl⟩) hS (fun q _ h => hFc q h) hFc (fun r17 u18 t H1 locs ht9 hvm hw hB hz1 hk1 hS => ?_)
      obtain ⟨hP, hD⟩ := va_join (wr := []) (w1 := []) hP hD [0, 1] [] rfl rfl (by decide) (by decide) hk1 hFc kP0 kD0
      generalize H1 = H at hP hS ⊢
      have hP : va_P (dC, dI) vwCl [] H := hP
      have hD : va_D (fun q : Nat => s.heap.size ≤ q) [] := hD
      subst hw
      refine lv_icmp_eq (tgt := 1731) hx hb dL_law_837 (by decide) (fun c19 => ?_) (fun c19 => absurd c19 (by decide))
      exact law_tail C0 hS (lv_sub hl [3, 0] rfl)
set_option maxHeartbeats 4000000 in
set_option maxRecDepth 100000 in
/-- the call of nose on two fresh objects -/
theorem lcase_22 {p : Program} {l : Launch} {e : Env} {s : State} {m : MethodId} {below : List Frame} {meth : Method} {c : Code} {b : Nat} {xs : Nat → Int32} {dC : Nat → ClassId} {dI : Nat → Nat → Nat} {cI cZ cB cJ cM : ClassId} (x0 y0 : Nat) (u v : Nat → Nat) {H : Heap} {locs : List Loc} {ls : Array Slot} (C0 : lw_At p s m meth c b 6 xs) (hK : va_K (dC, dI) vwCl [(cI, .int), (cZ, .boolean), (cB, .byte), (cJ, .long), (cM, .object RX2)] s) (hP : va_P (dC, dI) vwCl [(x0, .inr (11, [.ref (u 0), .ref (u 2), .ref (u 3), .ref (u 4), .ref (u 5), .ref (u 10), .ref (u 11), .ref (u 12), .ref (u 98), .ref (u 124)])), (u 98, .inr (2, [.int 0, .int 0, .int 0, .int 0, .int 0, .int 0, .int 0, .int 0, .int 0, .ref (u 99), .ref (u 107), .ref (u 117), .ref (u 122), .ref (u 123)])), (u 99, .inr (3, [.int 0, .ref (u 100), .ref (u 101), .ref (u 102), .ref (u 103), .ref (u 104), .ref (u 105), .ref (u 106)])), (y0, .inr (12, [.int 0, .ref (v 1), .ref (v 2), .ref (v 3), .ref (v 4), .int 0, .ref (v 6), .int 0, .int 0, .int 0, .int 0, .int 0, .int 0, .int (-1), .ref (v 14), .ref (v 15), .ref (v 16), .ref (v 17), .ref (v 18), .ref (v 19), .ref (v 20), .int 0, .ref (v 22), .int 0, .ref (v 24), .ref (v 25), .int 0, .ref (v 27), .ref (v 28), .ref (v 29), .ref (v 30), .int 0, .int 0, .int 0, .int 0, .int 0, .ref (v 36), .long 0, .ref (v 38), .ref (v 39), .ref (v 40), .ref (v 41)])), (v 1, .inl (cI, 544, .inl (upd (upd (upd (fun _ => 0) 8 1) 9 1) 17 (-1))))] H) (hD : va_D (fun q : Nat => s.heap.size ≤ q) [(x0, .inr (11, [.ref (u 0), .ref (u 2), .ref (u 3), .ref (u 4), .ref (u 5), .ref (u 10), .ref (u 11), .ref (u 12), .ref (u 98), .ref (u 124)])), (u 98, .inr (2, [.int 0, .int 0, .int 0, .int 0, .int 0, .int 0, .int 0, .int 0, .int 0, .ref (u 99), .ref (u 107), .ref (u 117), .ref (u 122), .ref (u 123)])), (u 99, .inr (3, [.int 0, .ref (u 100), .ref (u 101), .ref (u 102), .ref (u 103), .ref (u 104), .ref (u 105), .ref (u 106)])), (y0, .inr (12, [.int 0, .ref (v 1), .ref (v 2), .ref (v 3), .ref (v 4), .int 0, .ref (v 6), .int 0, .int 0, .int 0, .int 0, .int 0, .int 0, .int (-1), .ref (v 14), .ref (v 15), .ref (v 16), .ref (v 17), .ref (v 18), .ref (v 19), .ref (v 20), .int 0, .ref (v 22), .int 0, .ref (v 24), .ref (v 25), .int 0, .ref (v 27), .ref (v 28), .ref (v 29), .ref (v 30), .int 0, .int 0, .int 0, .int 0, .int 0, .ref (v 36), .long 0, .ref (v 38), .ref (v 39), .ref (v 40), .ref (v 41)])), (v 1, .inl (cI, 544, .inl (upd (upd (upd (fun _ => 0) 8 1) 9 1) 17 (-1))))]) (hS : va_S (fun q : Nat => s.heap.size ≤ q) s.heap H locs) (hl : lv_has ls 4 [(3, .int 0), (2, .ref y0), (1, .ref x0), (0, .ref b)]) : W p l e room_1 s m #[Value.ref b] below meth c H locs 600000 7302250 (lw_Z below #[Value.ref b] s) (F0 m 842 ls []) := by
  obtain ⟨hx, hb, hr, hml, hown0, hts, hX, hbl, hlocks, hgv⟩ := id C0
  have hb : c.code = cL_law := hb
  have hown : s.vm.findClass RL = some m.cls := hown0
  have hwd : ∀ wd ∈ wsL_law, wd.before #[Value.ref b] s = true := fun w h => hts w (wsL_law_in w h)
  have hA : ∀ q : Nat, s.heap.size ≤ q → (fun q : Nat => s.heap.size ≤ q) q := fun _ h => h
  have hbA : ¬ (fun q : Nat => s.heap.size ≤ q) b := Nat.not_le.mpr hbl
  refine lv_aload_n hx hb dL_law_842 rfl (lv_at hl 2 rfl) ?_
  refine lv_aload_n hx hb dL_law_843 rfl (lv_at hl 3 rfl) ?_
  refine lv_iload_n hx hb dL_law_844 rfl (lv_at hl 0 rfl) ?_
  refine lv_iconst (v := 1) hx hb dL_law_845 (by decide) ?_
  refine lv_iadd hx hb dL_law_846 ?_
  refine lv_topi (nm_r (e' := (1)) (by decide +kernel) ?_)
  refine va_sld hx hb hX hbl hbA hS (vin (by decide)) dL_law_847 ?_
  refine lv_aload_n hx hb dL_law_848 rfl (lv_at hl 3 rfl) ?_
  refine lv_iload_n hx hb dL_law_849 rfl (lv_at hl 0 rfl) ?_
  refine lv_iconst (v := 2) hx hb dL_law_850 (by decide) ?_
  refine lv_iadd hx hb dL_law_851 ?_
  refine lv_topi (nm_r (e' := (2)) (by decide +kernel) ?_)
  refine va_sld hx hb hX hbl hbA hS (vin (by decide)) dL_law_852 ?_
  have hPc := hP.sub (ws' := [(x0, .inr (11, [.ref (u 0), .ref (u 2), .ref (u 3), .ref (u 4), .ref (u 5), .ref (u 10), .ref (u 11), .ref (u 12), .ref (u 98), .ref (u 124)])), (u 98, .inr (2, [.int 0, .int 0, .int 0, .int 0, .int 0, .int 0, .int 0, .int 0, .int 0, .ref (u 99), .ref (u 107), .ref (u 117), .ref (u 122), .ref (u 123)])), (u 99, .inr (3, [.int 0, .ref (u 100), .ref (u 101), .ref (u 102), .ref (u 103), .ref (u 104), .ref (u 105), .ref (u 106)]))]) [0, 1, 2] rfl
  have hDc := hD.sub (ws' := [(x0, .inr (11, [.ref (u 0), .ref (u 2), .ref (u 3), .ref (u 4), .ref (u 5), .ref (u 10), .ref (u 11), .ref (u 12), .ref (u 98), .ref (u 124)])), (u 98, .inr (2, [.int 0, .int 0, .int 0, .int 0, .int 0, .int 0, .int 0, .int 0, .int 0, .ref (u 99), .ref (u 107), .ref (u 117), .ref (u 122), .ref (u 123)])), (u 99, .inr (3, [.int 0, .ref (u 100), .ref (u 101), .ref (u 102), .ref (u 103), .ref (u 104), .ref (u 105), .ref (u 106)]))]) [0, 1, 2] (by decide) rfl
  have hFc := va_free (wc := [(x0, .inr (11, [.ref (u 0), .ref (u 2), .ref (u 3), .ref (u 4), .ref (u 5), .ref (u 10), .ref (u 11), .ref (u 12), .ref (u 98), .ref (u 124)])), (u 98, .inr (2, [.int 0, .int 0, .int 0, .int 0, .int 0, .int 0, .int 0, .int 0, .int 0, .ref (u 99), .ref (u 107), .ref (u 117), .ref (u 122), .ref (u 123)])), (u 99, .inr (3, [.int 0, .ref (u 100), .ref (u 101), .ref (u 102), .ref (u 103), .ref (u 104), .ref (u 105), .ref (u 106)]))]) hD hS hA [0, 1, 2] rfl
  refine va_calli (va_runV (As := [.int (xs (1 : Int32).toNatClampNeg), .int (xs (2 : Int32).toNatClampNeg)]) (rest := []) ⟨hx, hb, hml, hown, hwd⟩ (c_X11_nose l dC dI cI cZ cB cJ cM x0 (u 0) (u 2) (u 3) (u 4) (u 5) (u 10) (u 11) (u 12) (u 98) (u 124) (u 99) (u 107) (u 117) (u 122) (u 123) (u 100) (u 101) (u 102) (u 103) (u 104) (u 105) (u 106) (xs (1 : Int32).toNatClampNeg) (xs (2 : Int32).toNatClampNeg) H.size) (cwV 2 hwd (gV kr23_9 kr23_10 kr23_11 kr1_2 kr23_12) rfl rfl rfl (by decide +kernel) ⟨Nat.le_of_ble_eq_true rfl, Nat.le_of_ble_eq_true rfl⟩) (kPreV hPc hK hDc (ci := 11) (q0 := 0) rfl rfl) rfl rfl hl.1 rfl (lv_room (Nat.le_of_ble_eq_true rfl)) dL_law_853 ⟨Nat.le_of_ble_eq_true rfl, Nat.le_of_ble_eq_true rfl⟩) hS (fun q _ h => hFc q h) hFc (fun r1 u2 t H1 locs ht9 hvm hw hB hz1 hk1 hS => ?_)
  obtain ⟨hP, hD⟩ := va_join (wr := [(y0, .inr (12, [.int 0, .ref (v 1), .ref (v 2), .ref (v 3), .ref (v 4), .int 0, .ref (v 6), .int 0, .int 0, .int 0, .int 0, .int 0, .int 0, .int (-1), .ref (v 14), .ref (v 15), .ref (v 16), .ref (v 17), .ref (v 18), .ref (v 19), .ref (v 20), .int 0, .ref (v 22), .int 0, .ref (v 24), .ref (v 25), .int 0, .ref (v 27), .ref (v 28), .ref (v 29), .ref (v 30), .int 0, .int 0, .int 0, .int 0, .int 0, .ref (v 36), .long 0, .ref (v 38), .ref (v 39), .ref (v 40), .ref (v 41)])), (v 1, .inl (cI, 544, .inl (upd (upd (upd (fun _ => 0) 8 1) 9 1) 17 (-1))))]) (w1 := []) hP hD [0, 1, 2] [3, 4] rfl rfl (by decide) (by decide) hk1 hFc kP0 kD0
  generalize H1 = H at hP hS ⊢
  have hP : va_P (dC, dI) vwCl [(y0, .inr (12, [.int 0, .ref (v 1), .ref (v 2), .ref (v 3), .ref (v 4), .int 0, .ref (v 6), .int 0, .int 0, .int 0, .int 0, .int 0, .int 0, .int (-1), .ref (v 14), .ref (v 15), .ref (v 16), .ref (v 17), .ref (v 18), .ref (v 19), .ref (v 20), .int 0, .ref (v 22), .int 0, .ref (v 24), .ref (v 25), .int 0, .ref (v 27), .ref (v 28), .ref (v 29), .ref (v 30), .int 0, .int 0, .int 0, .int 0, .int 0, .ref (v 36), .long 0, .ref (v 38), .ref (v 39), .ref (v 40), .ref (v 41)])), (v 1, .inl (cI, 544, .inl (upd (upd (upd (fun _ => 0) 8 1) 9 1) 17 (-1))))] H := hP
  have hD : va_D (fun q : Nat => s.heap.size ≤ q) [(y0, .inr (12, [.int 0, .ref (v 1), .ref (v 2), .ref (v 3), .ref (v 4), .int 0, .ref (v 6), .int 0, .int 0, .int 0, .int 0, .int 0, .int 0, .int (-1), .ref (v 14), .ref (v 15), .ref (v 16), .ref (v 17), .ref (v 18), .ref (v 19), .ref (v 20), .int 0, .ref (v 22), .int 0, .ref (v 24), .ref (v 25), .int 0, .ref (v 27), .ref (v 28), .ref (v 29), .ref (v 30), .int 0, .int 0, .int 0, .int 0, .int 0, .ref (v 36), .long 0, .ref (v 38), .ref (v 39), .ref (v 40), .ref (v 41)])), (v 1, .inl (cI, 544, .inl (upd (upd (upd (fun _ => 0) 8 1) 9 1) 17 (-1))))] := hD
  subst hw
  refine lv_aload_n hx hb dL_law_856 rfl (lv_at hl 1 rfl) ?_
  refine lv_aload_n hx hb dL_law_857 rfl (lv_at hl 3 rfl) ?_
  refine lv_iload_n hx hb dL_law_858 rfl (lv_at hl 0 rfl) ?_
  refine lv_iconst (v := 1) hx hb dL_law_859 (by decide) ?_
  refine lv_iadd hx hb dL_law_860 ?_
  refine lv_topi (nm_r (e' := (1)) (by decide +kernel) ?_)
  refine va_sld hx hb hX hbl hbA hS (vin (by decide)) dL_law_861 ?_
  refine lv_aload_n hx hb dL_law_862 rfl (lv_at hl 3 rfl) ?_
  refine lv_iload_n hx hb dL_law_863 rfl (lv_at hl 0 rfl) ?_
  refine lv_iconst (v := 2) hx hb dL_law_864 (by decide) ?_
  refine lv_iadd hx hb dL_law_865 ?_
  refine lv_topi (nm_r (e' := (2)) (by decide +kernel) ?_)
  refine va_sld hx hb hX hbl hbA hS (vin (by decide)) dL_law_866 ?_
  have hPc := hP.sub (ws' := [(y0, .inr (12, [.int 0, .ref (v 1), .ref (v 2), .ref (v 3), .ref (v 4), .int 0, .ref (v 6), .int 0, .int 0, .int 0, .int 0, .int 0, .int 0, .int (-1), .ref (v 14), .ref (v 15), .ref (v 16), .ref (v 17), .ref (v 18), .ref (v 19), .ref (v 20), .int 0, .ref (v 22), .int 0, .ref (v 24), .ref (v 25), .int 0, .ref (v 27), .ref (v 28), .ref (v 29), .ref (v 30), .int 0, .int 0, .int 0, .int 0, .int 0, .ref (v 36), .long 0, .ref (v 38), .ref (v 39), .ref (v 40), .ref (v 41)])), (v 1, .inl (cI, 544, .inl (upd (upd (upd (fun _ => 0) 8 1) 9 1) 17 (-1))))]) [0, 1] rfl
  have hDc := hD.sub (ws' := [(y0, .inr (12, [.int 0, .ref (v 1), .ref (v 2), .ref (v 3), .ref (v 4), .int 0, .ref (v 6), .int 0, .int 0, .int 0, .int 0, .int 0, .int 0, .int (-1), .ref (v 14), .ref (v 15), .ref (v 16), .ref (v 17), .ref (v 18), .ref (v 19), .ref (v 20), .int 0, .ref (v 22), .int 0, .ref (v 24), .ref (v 25), .int 0, .ref (v 27), .ref (v 28), .ref (v 29), .ref (v 30), .int 0, .int 0, .int 0, .int 0, .int 0, .ref (v 36), .long 0, .ref (v 38), .ref (v 39), .ref (v 40), .ref (v 41)])), (v 1, .inl (cI, 544, .inl (upd (upd (upd (fun _ => 0) 8 1) 9 1) 17 (-1))))]) [0, 1] (by decide) rfl
  have hFc := va_free (wc := [(y0, .inr (12, [.int 0, .ref (v 1), .ref (v 2), .ref (v 3), .ref (v 4), .int 0, .ref (v 6), .int 0, .int 0, .int 0, .int 0, .int 0, .int 0, .int (-1), .ref (v 14), .ref (v 15), .ref (v 16), .ref (v 17), .ref (v 18), .ref (v 19), .ref (v 20), .int 0, .ref (v 22), .int 0, .ref (v 24), .ref (v 25), .int 0, .ref (v 27), .ref (v 28), .ref (v 29), .ref (v 30), .int 0, .int 0, .int 0, .int 0, .int 0, .ref (v 36), .long 0, .ref (v 38), .ref (v 39), .ref (v 40), .ref (v 41)])), (v 1, .inl (cI, 544, .inl (upd (upd (upd (fun _ => 0) 8 1) 9 1) 17 (-1))))]) hD hS hA [0, 1] rfl
  refine va_calli (va_runV (As := [.int (xs (1 : Int32).toNatClampNeg), .int (xs (2 : Int32).toNatClampNeg)]) (rest := [.int (-2)]) ⟨hx, hb, hml, hown, hwd⟩ (c_X12_nose l dC dI cI cZ cB cJ cM y0 v (xs (1 : Int32).toNatClampNeg) (xs (2 : Int32).toNatClampNeg) H.size) (cwV 2 hwd (gV kr23_13 kr23_14 kr23_15 kr1_5 kr23_16) rfl rfl rfl (by decide +kernel) ⟨Nat.le_of_ble_eq_true rfl, Nat.le_of_ble_eq_true rfl⟩) (kPreV hPc hK hDc (ci := 12) (q0 := 0) rfl rfl) rfl rfl hl.1 rfl (lv_room (Nat.le_of_ble_eq_true rfl)) dL_law_867 ⟨Nat.le_of_ble_eq_true rfl, Nat.le_of_ble_eq_true rfl⟩) hS (fun q _ h => hFc q h) hFc (fun r3 u4 t H1 locs ht9 hvm hw hB hz1 hk1 hS => ?_)
  obtain ⟨hP, hD⟩ := va_join (wr := []) (w1 := []) hP hD [0, 1] [] rfl rfl (by decide) (by decide) hk1 hFc kP0 kD0
  generalize H1 = H at hP hS ⊢
  have hP : va_P (dC, dI) vwCl [] H := hP
  have hD : va_D (fun q : Nat => s.heap.size ≤ q) [] := hD
  subst hw
  refine lv_icmp_eq (tgt := 1731) hx hb dL_law_870 (by decide) (fun c5 => ?_) (fun c5 => absurd c5 (by decide))
  exact law_tail C0 hS (lv_sub hl [3, 0] rfl)
set_option maxHeartbeats 4000000 in
set_option maxRecDepth 100000 in
/-- the call of spare on two fresh objects -/
theorem lcase_23 {p : Program} {l : Launch} {e : Env} {s : State} {m : MethodId} {below : List Frame} {meth : Method} {c : Code} {b : Nat} {xs : Nat → Int32} {dC : Nat → ClassId} {dI : Nat → Nat → Nat} {cI cZ cB cJ cM : ClassId} (x0 y0 : Nat) (u v : Nat → Nat) {H : Heap} {locs : List Loc} {ls : Array Slot} (C0 : lw_At p s m meth c b 6 xs) (hK : va_K (dC, dI) vwCl [(cI, .int), (cZ, .boolean), (cB, .byte), (cJ, .long), (cM, .object RX2)] s) (hP : va_P (dC, dI) vwCl [(x0, .inr (11, [.ref (u 0), .ref (u 2), .ref (u 3), .ref (u 4), .ref (u 5), .ref (u 10), .ref (u 11), .ref (u 12), .ref (u 98), .ref (u 124)])), (u 98, .inr (2, [.int 0, .int 0, .int 0, .int 0, .int 0, .int 0, .int 0, .int 0, .int 0, .ref (u 99), .ref (u 107), .ref (u 117), .ref (u 122), .ref (u 123)])), (y0, .inr (12, [.int 0, .ref (v 1), .ref (v 2), .ref (v 3), .ref (v 4), .int 0, .ref (v 6), .int 0, .int 0, .int 0, .int 0, .int 0, .int 0, .int (-1), .ref (v 14), .ref (v 15), .ref (v 16), .ref (v 17), .ref (v 18), .ref (v 19), .ref (v 20), .int 0, .ref (v 22), .int 0, .ref (v 24), .ref (v 25), .int 0, .ref (v 27), .ref (v 28), .ref (v 29), .ref (v 30), .int 0, .int 0, .int 0, .int 0, .int 0, .ref (v 36), .long 0, .ref (v 38), .ref (v 39), .ref (v 40), .ref (v 41)])), (v 1, .inl (cI, 544, .inl (upd (upd (upd (fun _ => 0) 8 1) 9 1) 17 (-1))))] H) (hD : va_D (fun q : Nat => s.heap.size ≤ q) [(x0, .inr (11, [.ref (u 0), .ref (u 2), .ref (u 3), .ref (u 4), .ref (u 5), .ref (u 10), .ref (u 11), .ref (u 12), .ref (u 98), .ref (u 124)])), (u 98, .inr (2, [.int 0, .int 0, .int 0, .int 0, .int 0, .int 0, .int 0, .int 0, .int 0, .ref (u 99), .ref (u 107), .ref (u 117), .ref (u 122), .ref (u 123)])), (y0, .inr (12, [.int 0, .ref (v 1), .ref (v 2), .ref (v 3), .ref (v 4), .int 0, .ref (v 6), .int 0, .int 0, .int 0, .int 0, .int 0, .int 0, .int (-1), .ref (v 14), .ref (v 15), .ref (v 16), .ref (v 17), .ref (v 18), .ref (v 19), .ref (v 20), .int 0, .ref (v 22), .int 0, .ref (v 24), .ref (v 25), .int 0, .ref (v 27), .ref (v 28), .ref (v 29), .ref (v 30), .int 0, .int 0, .int 0, .int 0, .int 0, .ref (v 36), .long 0, .ref (v 38), .ref (v 39), .ref (v 40), .ref (v 41)])), (v 1, .inl (cI, 544, .inl (upd (upd (upd (fun _ => 0) 8 1) 9 1) 17 (-1))))]) (hS : va_S (fun q : Nat => s.heap.size ≤ q) s.heap H locs) (hl : lv_has ls 4 [(3, .int 0), (2, .ref y0), (1, .ref x0), (0, .ref b)]) : W p l e room_1 s m #[Value.ref b] below meth c H locs 600000 7302250 (lw_Z below #[Value.ref b] s) (F0 m 875 ls []) := by
  obtain ⟨hx, hb, hr, hml, hown0, hts, hX, hbl, hlocks, hgv⟩ := id C0
  have hb : c.code = cL_law := hb
  have hown : s.vm.findClass RL = some m.cls := hown0
  have hwd : ∀ wd ∈ wsL_law, wd.before #[Value.ref b] s = true := fun w h => hts w (wsL_law_in w h)
  have hA : ∀ q : Nat, s.heap.size ≤ q → (fun q : Nat => s.heap.size ≤ q) q := fun _ h => h
  have hbA : ¬ (fun q : Nat => s.heap.size ≤ q) b := Nat.not_le.mpr hbl
  refine lv_aload_n hx hb dL_law_875 rfl (lv_at hl 2 rfl) ?_
  have hPc := hP.sub (ws' := [(x0, .inr (11, [.ref (u 0), .ref (u 2), .ref (u 3), .ref (u 4), .ref (u 5), .ref (u 10), .ref (u 11), .ref (u 12), .ref (u 98), .ref (u 124)])), (u 98, .inr (2, [.int 0, .int 0, .int 0, .int 0, .int 0, .int 0, .int 0, .int 0, .int 0, .ref (u 99), .ref (u 107), .ref (u 117), .ref (u 122), .ref (u 123)]))]) [0, 1] rfl
  have hDc := hD.sub (ws' := [(x0, .inr (11, [.ref (u 0), .ref (u 2), .ref (u 3), .ref (u 4), .ref (u 5), .ref (u 10), .ref (u 11), .ref (u 12), .ref (u 98), .ref (u 124)])), (u 98, .inr (2, [.int 0, .int 0, .int 0, .int 0, .int 0, .int 0, .int 0, .int 0, .int 0, .ref (u 99), .ref (u 107), .ref (u 117), .ref (u 122), .ref (u 123)]))]) [0, 1] (by decide) rfl
  have hFc := va_free (wc := [(x0, .inr (11, [.ref (u 0), .ref (u 2), .ref (u 3), .ref (u 4), .ref (u 5), .ref (u 10), .ref (u 11), .ref (u 12), .ref (u 98), .ref (u 124)])), (u 98, .inr (2, [.int 0, .int 0, .int 0, .int 0, .int 0, .int 0, .int 0, .int 0, .int 0, .ref (u 99), .ref (u 107), .ref (u 117), .ref (u 122), .ref (u 123)]))]) hD hS hA [0, 1] rfl
  refine va_calli (va_runV (As := []) (rest := []) ⟨hx, hb, hml, hown, hwd⟩ (c_X11_spare l dC dI cI cZ cB cJ cM x0 (u 0) (u 2) (u 3) (u 4) (u 5) (u 10) (u 11) (u 12) (u 98) (u 124) (u 99) (u 107) (u 117) (u 122) (u 123) H.size) (cwV 0 hwd (gV kr23_17 kr23_18 kr23_19 kr1_2 kr23_20) rfl rfl rfl (by decide +kernel) ⟨Nat.le_of_ble_eq_true rfl, Nat.le_of_ble_eq_true rfl⟩) (kPreV hPc hK hDc (ci := 11) (q0 := 0) rfl rfl) rfl rfl hl.1 rfl (lv_room (Nat.le_of_ble_eq_true rfl)) dL_law_876 ⟨Nat.le_of_ble_eq_true rfl, Nat.le_of_ble_eq_true rfl⟩) hS (fun q _ h => hFc q h) hFc (fun r1 u2 t H1 locs ht9 hvm hw hB hz1 hk1 hS => ?_)
  obtain ⟨hP, hD⟩ := va_join (wr := [(y0, .inr (12, [.int 0, .ref (v 1), .ref (v 2), .ref (v 3), .ref (v 4), .int 0, .ref (v 6), .int 0, .int 0, .int 0, .int 0, .int 0, .int 0, .int (-1), .ref (v 14), .ref (v 15), .ref (v 16), .ref (v 17), .ref (v 18), .ref (v 19), .ref (v 20), .int 0, .ref (v 22), .int 0, .ref (v 24), .ref (v 25), .int 0, .ref (v 27), .ref (v 28), .ref (v 29), .ref (v 30), .int 0, .int 0, .int 0, .int 0, .int 0, .ref (v 36), .long 0, .ref (v 38), .ref (v 39), .ref (v 40), .ref (v 41)])), (v 1, .inl (cI, 544, .inl (upd (upd (upd (fun _ => 0) 8 1) 9 1) 17 (-1))))]) (w1 := []) hP hD [0, 1] [2, 3] rfl rfl (by decide) (by decide) hk1 hFc kP0 kD0
  generalize H1 = H at hP hS ⊢
  have hP : va_P (dC, dI) vwCl [(y0, .inr (12, [.int 0, .ref (v 1), .ref (v 2), .ref (v 3), .ref (v 4), .int 0, .ref (v 6), .int 0, .int 0, .int 0, .int 0, .int 0, .int 0, .int (-1), .ref (v 14), .ref (v 15), .ref (v 16), .ref (v 17), .ref (v 18), .ref (v 19), .ref (v 20), .int 0, .ref (v 22), .int 0, .ref (v 24), .ref (v 25), .int 0, .ref (v 27), .ref (v 28), .ref (v 29), .ref (v 30), .int 0, .int 0, .int 0, .int 0, .int 0, .ref (v 36), .long 0, .ref (v 38), .ref (v 39), .ref (v 40), .ref (v 41)])), (v 1, .inl (cI, 544, .inl (upd (upd (upd (fun _ => 0) 8 1) 9 1) 17 (-1))))] H := hP
  have hD : va_D (fun q : Nat => s.heap.size ≤ q) [(y0, .inr (12, [.int 0, .ref (v 1), .ref (v 2), .ref (v 3), .ref (v 4), .int 0, .ref (v 6), .int 0, .int 0, .int 0, .int 0, .int 0, .int 0, .int (-1), .ref (v 14), .ref (v 15), .ref (v 16), .ref (v 17), .ref (v 18), .ref (v 19), .ref (v 20), .int 0, .ref (v 22), .int 0, .ref (v 24), .ref (v 25), .int 0, .ref (v 27), .ref (v 28), .ref (v 29), .ref (v 30), .int 0, .int 0, .int 0, .int 0, .int 0, .ref (v 36), .long 0, .ref (v 38), .ref (v 39), .ref (v 40), .ref (v 41)])), (v 1, .inl (cI, 544, .inl (upd (upd (upd (fun _ => 0) 8 1) 9 1) 17 (-1))))] := hD
  subst hw
  refine lv_aload_n hx hb dL_law_879 rfl (lv_at hl 1 rfl) ?_
  have hPc := hP.sub (ws' := [(y0, .inr (12, [.int 0, .ref (v 1), .ref (v 2), .ref (v 3), .ref (v 4), .int 0, .ref (v 6), .int 0, .int 0, .int 0, .int 0, .int 0, .int 0, .int (-1), .ref (v 14), .ref (v 15), .ref (v 16), .ref (v 17), .ref (v 18), .ref (v 19), .ref (v 20), .int 0, .ref (v 22), .int 0, .ref (v 24), .ref (v 25), .int 0, .ref (v 27), .ref (v 28), .ref (v 29), .ref (v 30), .int 0, .int 0, .int 0, .int 0, .int 0, .ref (v 36), .long 0, .ref (v 38), .ref (v 39), .ref (v 40), .ref (v 41)])), (v 1, .inl (cI, 544, .inl (upd (upd (upd (fun _ => 0) 8 1) 9 1) 17 (-1))))]) [0, 1] rfl
  have hDc := hD.sub (ws' := [(y0, .inr (12, [.int 0, .ref (v 1), .ref (v 2), .ref (v 3), .ref (v 4), .int 0, .ref (v 6), .int 0, .int 0, .int 0, .int 0, .int 0, .int 0, .int (-1), .ref (v 14), .ref (v 15), .ref (v 16), .ref (v 17), .ref (v 18), .ref (v 19), .ref (v 20), .int 0, .ref (v 22), .int 0, .ref (v 24), .ref (v 25), .int 0, .ref (v 27), .ref (v 28), .ref (v 29), .ref (v 30), .int 0, .int 0, .int 0, .int 0, .int 0, .ref (v 36), .long 0, .ref (v 38), .ref (v 39), .ref (v 40), .ref (v 41)])), (v 1, .inl (cI, 544, .inl (upd (upd (upd (fun _ => 0) 8 1) 9 1) 17 (-1))))]) [0, 1] (by decide) rfl
  have hFc := va_free (wc := [(y0, .inr (12, [.int 0, .ref (v 1), .ref (v 2), .ref (v 3), .ref (v 4), .int 0, .ref (v 6), .int 0, .int 0, .int 0, .int 0, .int 0, .int 0, .int (-1), .ref (v 14), .ref (v 15), .ref (v 16), .ref (v 17), .ref (v 18), .ref (v 19), .ref (v 20), .int 0, .ref (v 22), .int 0, .ref (v 24), .ref (v 25), .int 0, .ref (v 27), .ref (v 28), .ref (v 29), .ref (v 30), .int 0, .int 0, .int 0, .int 0, .int 0, .ref (v 36), .long 0, .ref (v 38), .ref (v 39), .ref (v 40), .ref (v 41)])), (v 1, .inl (cI, 544, .inl (upd (upd (upd (fun _ => 0) 8 1) 9 1) 17 (-1))))]) hD hS hA [0, 1] rfl
  refine va_calli (va_runV (As := []) (rest := [.int (-2)]) ⟨hx, hb, hml, hown, hwd⟩ (c_X12_spare l dC dI cI cZ cB cJ cM y0 v H.size) (cwV 0 hwd (gV kr23_22 kr23_23 kr24_0 kr1_5 kr24_1) rfl rfl rfl (by decide +kernel) ⟨Nat.le_of_ble_eq_true rfl, Nat.le_of_ble_eq_true rfl⟩) (kPreV hPc hK hDc (ci := 12) (q0 := 0) rfl rfl) rfl rfl hl.1 rfl (lv_room (Nat.le_of_ble_eq_true rfl)) dL_law_880 ⟨Nat.le_of_ble_eq_true rfl, Nat.le_of_ble_eq_true rfl⟩) hS (fun q _ h => hFc q h) hFc (fun r3 u4 t H1 locs ht9 hvm hw hB hz1 hk1 hS => ?_)
  obtain ⟨hP, hD⟩ := va_join (wr := []) (w1 := []) hP hD [0, 1] [] rfl rfl (by decide) (by decide) hk1 hFc kP0 kD0
  generalize H1 = H at hP hS ⊢
  have hP : va_P (dC, dI) vwCl [] H := hP
  have hD : va_D (fun q : Nat => s.heap.size ≤ q) [] := hD
  subst hw
  refine lv_icmp_eq (tgt := 1731) hx hb dL_law_883 (by decide) (fun c5 => ?_) (fun c5 => absurd c5 (by decide))
  exact law_tail C0 hS (lv_sub hl [3, 0] rfl)
