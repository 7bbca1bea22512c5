theorem d_L_law_588 : decode b_L_law 588 = .ok (.aload_n 3, 1) := by decide +kernel
theorem d_L_law_589 : decode b_L_law 589 = .ok (.iconst 0, 1) := by decide +kernel
theorem d_L_law_590 : decode b_L_law 590 = .ok (.laload, 1) := by decide +kernel
theorem d_L_law_591 : decode b_L_law 591 = .ok (.iload 6, 2) := by decide +kernel
theorem d_L_law_593 : decode b_L_law 593 = .ok (.i2l, 1) := by decide +kernel
theorem d_L_law_594 : decode b_L_law 594 = .ok (.lcmp, 1) := by decide +kernel
theorem d_L_law_595 : decode b_L_law 595 = .ok (.ifCond .eq 5, 3) := by decide +kernel
theorem d_L_law_598 : decode b_L_law 598 = .ok (.iconst 0, 1) := by decide +kernel
theorem d_L_law_599 : decode b_L_law 599 = .ok (.ireturn, 1) := by decide +kernel
theorem d_L_law_600 : decode b_L_law 600 = .ok (.goto 257, 3) := by decide +kernel
theorem d_L_law_603 : decode b_L_law 603 = .ok (.aload_n 1, 1) := by decide +kernel
theorem d_L_law_604 : decode b_L_law 604 = .ok (.aload_n 0, 1) := by decide +kernel
theorem d_L_law_605 : decode b_L_law 605 = .ok (.iload 4, 2) := by decide +kernel
theorem d_L_law_607 : decode b_L_law 607 = .ok (.iconst 1, 1) := by decide +kernel
theorem d_L_law_608 : decode b_L_law 608 = .ok (.iadd, 1) := by decide +kernel
theorem d_L_law_609 : decode b_L_law 609 = .ok (.iaload, 1) := by decide +kernel
theorem d_L_law_610 : decode b_L_law 610 = .ok (.aload_n 3, 1) := by decide +kernel
theorem d_L_law_611 : decode b_L_law 611 = .ok (.invokestatic 90, 3) := by decide +kernel
theorem d_L_law_614 : decode b_L_law 614 = .ok (.istore 5, 2) := by decide +kernel
theorem d_L_law_616 : decode b_L_law 616 = .ok (.aload_n 2, 1) := by decide +kernel
theorem d_L_law_617 : decode b_L_law 617 = .ok (.aload_n 0, 1) := by decide +kernel
theorem d_L_law_618 : decode b_L_law 618 = .ok (.iload 4, 2) := by decide +kernel
theorem d_L_law_620 : decode b_L_law 620 = .ok (.iconst 1, 1) := by decide +kernel
theorem d_L_law_621 : decode b_L_law 621 = .ok (.iadd, 1) := by decide +kernel
theorem d_L_law_622 : decode b_L_law 622 = .ok (.iaload, 1) := by decide +kernel
theorem d_L_law_623 : decode b_L_law 623 = .ok (.invokevirtual 93, 3) := by decide +kernel
theorem d_L_law_626 : decode b_L_law 626 = .ok (.lstore 6, 2) := by decide +kernel
theorem d_L_law_628 : decode b_L_law 628 = .ok (.aload_n 2, 1) := by decide +kernel
theorem d_L_law_629 : decode b_L_law 629 = .ok (.invokevirtual 66, 3) := by decide +kernel
theorem d_L_law_632 : decode b_L_law 632 = .ok (.iload 5, 2) := by decide +kernel
theorem d_L_law_634 : decode b_L_law 634 = .ok (.if_icmp .eq 5, 3) := by decide +kernel
theorem d_L_law_637 : decode b_L_law 637 = .ok (.iconst 0, 1) := by decide +kernel
theorem d_L_law_638 : decode b_L_law 638 = .ok (.ireturn, 1) := by decide +kernel
theorem d_L_law_639 : decode b_L_law 639 = .ok (.iload 5, 2) := by decide +kernel
theorem d_L_law_641 : decode b_L_law 641 = .ok (.ifCond .ne 14, 3) := by decide +kernel
theorem d_L_law_644 : decode b_L_law 644 = .ok (.aload_n 3, 1) := by decide +kernel
theorem d_L_law_645 : decode b_L_law 645 = .ok (.iconst 0, 1) := by decide +kernel
theorem d_L_law_646 : decode b_L_law 646 = .ok (.laload, 1) := by decide +kernel
theorem d_L_law_647 : decode b_L_law 647 = .ok (.lload 6, 2) := by decide +kernel
theorem d_L_law_649 : decode b_L_law 649 = .ok (.lcmp, 1) := by decide +kernel
theorem d_L_law_650 : decode b_L_law 650 = .ok (.ifCond .eq 5, 3) := by decide +kernel
theorem d_L_law_653 : decode b_L_law 653 = .ok (.iconst 0, 1) := by decide +kernel
theorem d_L_law_654 : decode b_L_law 654 = .ok (.ireturn, 1) := by decide +kernel
theorem d_L_law_655 : decode b_L_law 655 = .ok (.goto 202, 3) := by decide +kernel
theorem d_L_law_658 : decode b_L_law 658 = .ok (.aload_n 1, 1) := by decide +kernel
theorem d_L_law_659 : decode b_L_law 659 = .ok (.aload_n 0, 1) := by decide +kernel
theorem d_L_law_660 : decode b_L_law 660 = .ok (.iload 4, 2) := by decide +kernel
theorem d_L_law_662 : decode b_L_law 662 = .ok (.iconst 1, 1) := by decide +kernel
theorem d_L_law_663 : decode b_L_law 663 = .ok (.iadd, 1) := by decide +kernel
theorem d_L_law_664 : decode b_L_law 664 = .ok (.iaload, 1) := by decide +kernel
theorem d_L_law_665 : decode b_L_law 665 = .ok (.aload_n 3, 1) := by decide +kernel
theorem d_L_law_666 : decode b_L_law 666 = .ok (.invokestatic 94, 3) := by decide +kernel
theorem d_L_law_669 : decode b_L_law 669 = .ok (.istore 5, 2) := by decide +kernel
theorem d_L_law_671 : decode b_L_law 671 = .ok (.aload_n 2, 1) := by decide +kernel
theorem d_L_law_672 : decode b_L_law 672 = .ok (.aload_n 0, 1) := by decide +kernel
theorem d_L_law_673 : decode b_L_law 673 = .ok (.iload 4, 2) := by decide +kernel
theorem d_L_law_675 : decode b_L_law 675 = .ok (.iconst 1, 1) := by decide +kernel
theorem d_L_law_676 : decode b_L_law 676 = .ok (.iadd, 1) := by decide +kernel
theorem d_L_law_677 : decode b_L_law 677 = .ok (.iaload, 1) := by decide +kernel
theorem d_L_law_678 : decode b_L_law 678 = .ok (.invokevirtual 96, 3) := by decide +kernel
theorem d_L_law_681 : decode b_L_law 681 = .ok (.istore 6, 2) := by decide +kernel
theorem d_L_law_683 : decode b_L_law 683 = .ok (.aload_n 2, 1) := by decide +kernel
theorem d_L_law_684 : decode b_L_law 684 = .ok (.invokevirtual 66, 3) := by decide +kernel
theorem d_L_law_687 : decode b_L_law 687 = .ok (.iload 5, 2) := by decide +kernel
theorem d_L_law_689 : decode b_L_law 689 = .ok (.if_icmp .eq 5, 3) := by decide +kernel
theorem d_L_law_692 : decode b_L_law 692 = .ok (.iconst 0, 1) := by decide +kernel
theorem d_L_law_693 : decode b_L_law 693 = .ok (.ireturn, 1) := by decide +kernel
theorem d_L_law_694 : decode b_L_law 694 = .ok (.iload 5, 2) := by decide +kernel
theorem d_L_law_696 : decode b_L_law 696 = .ok (.ifCond .ne 15, 3) := by decide +kernel
theorem d_L_law_699 : decode b_L_law 699 = .ok (.aload_n 3, 1) := by decide +kernel
theorem d_L_law_700 : decode b_L_law 700 = .ok (.iconst 0, 1) := by decide +kernel
theorem d_L_law_701 : decode b_L_law 701 = .ok (.laload, 1) := by decide +kernel
theorem d_L_law_702 : decode b_L_law 702 = .ok (.iload 6, 2) := by decide +kernel
theorem d_L_law_704 : decode b_L_law 704 = .ok (.i2l, 1) := by decide +kernel
theorem d_L_law_705 : decode b_L_law 705 = .ok (.lcmp, 1) := by decide +kernel
theorem d_L_law_706 : decode b_L_law 706 = .ok (.ifCond .eq 5, 3) := by decide +kernel
theorem d_L_law_709 : decode b_L_law 709 = .ok (.iconst 0, 1) := by decide +kernel
theorem d_L_law_710 : decode b_L_law 710 = .ok (.ireturn, 1) := by decide +kernel
theorem d_L_law_711 : decode b_L_law 711 = .ok (.goto 146, 3) := by decide +kernel
theorem d_L_law_714 : decode b_L_law 714 = .ok (.aload_n 1, 1) := by decide +kernel
theorem d_L_law_715 : decode b_L_law 715 = .ok (.aload_n 0, 1) := by decide +kernel
theorem d_L_law_716 : decode b_L_law 716 = .ok (.iload 4, 2) := by decide +kernel
theorem d_L_law_718 : decode b_L_law 718 = .ok (.iconst 1, 1) := by decide +kernel
theorem d_L_law_719 : decode b_L_law 719 = .ok (.iadd, 1) := by decide +kernel
theorem d_L_law_720 : decode b_L_law 720 = .ok (.iaload, 1) := by decide +kernel
theorem d_L_law_721 : decode b_L_law 721 = .ok (.aload_n 0, 1) := by decide +kernel
theorem d_L_law_722 : decode b_L_law 722 = .ok (.iload 4, 2) := by decide +kernel
theorem d_L_law_724 : decode b_L_law 724 = .ok (.iconst 2, 1) := by decide +kernel
theorem d_L_law_725 : decode b_L_law 725 = .ok (.iadd, 1) := by decide +kernel
theorem d_L_law_726 : decode b_L_law 726 = .ok (.iaload, 1) := by decide +kernel
theorem d_L_law_727 : decode b_L_law 727 = .ok (.aload_n 3, 1) := by decide +kernel
theorem d_L_law_728 : decode b_L_law 728 = .ok (.invokestatic 97, 3) := by decide +kernel
theorem d_L_law_731 : decode b_L_law 731 = .ok (.istore 5, 2) := by decide +kernel
theorem d_L_law_733 : decode b_L_law 733 = .ok (.aload_n 2, 1) := by decide +kernel
theorem d_L_law_734 : decode b_L_law 734 = .ok (.aload_n 0, 1) := by decide +kernel
theorem d_L_law_735 : decode b_L_law 735 = .ok (.iload 4, 2) := by decide +kernel
theorem d_L_law_737 : decode b_L_law 737 = .ok (.iconst 1, 1) := by decide +kernel
theorem d_L_law_738 : decode b_L_law 738 = .ok (.iadd, 1) := by decide +kernel
theorem d_L_law_739 : decode b_L_law 739 = .ok (.iaload, 1) := by decide +kernel
theorem d_L_law_740 : decode b_L_law 740 = .ok (.aload_n 0, 1) := by decide +kernel
theorem d_L_law_741 : decode b_L_law 741 = .ok (.iload 4, 2) := by decide +kernel
theorem d_L_law_743 : decode b_L_law 743 = .ok (.iconst 2, 1) := by decide +kernel
theorem d_L_law_744 : decode b_L_law 744 = .ok (.iadd, 1) := by decide +kernel
theorem d_L_law_745 : decode b_L_law 745 = .ok (.iaload, 1) := by decide +kernel
theorem d_L_law_746 : decode b_L_law 746 = .ok (.invokevirtual 99, 3) := by decide +kernel
theorem d_L_law_749 : decode b_L_law 749 = .ok (.istore 6, 2) := by decide +kernel
theorem d_L_law_751 : decode b_L_law 751 = .ok (.aload_n 2, 1) := by decide +kernel
theorem d_L_law_752 : decode b_L_law 752 = .ok (.invokevirtual 66, 3) := by decide +kernel
theorem d_L_law_755 : decode b_L_law 755 = .ok (.iload 5, 2) := by decide +kernel
theorem d_L_law_757 : decode b_L_law 757 = .ok (.if_icmp .eq 5, 3) := by decide +kernel
theorem d_L_law_760 : decode b_L_law 760 = .ok (.iconst 0, 1) := by decide +kernel
theorem d_L_law_761 : decode b_L_law 761 = .ok (.ireturn, 1) := by decide +kernel
theorem d_L_law_762 : decode b_L_law 762 = .ok (.iload 5, 2) := by decide +kernel
theorem d_L_law_764 : decode b_L_law 764 = .ok (.ifCond .ne 15, 3) := by decide +kernel
theorem d_L_law_767 : decode b_L_law 767 = .ok (.aload_n 3, 1) := by decide +kernel
theorem d_L_law_768 : decode b_L_law 768 = .ok (.iconst 0, 1) := by decide +kernel
theorem d_L_law_769 : decode b_L_law 769 = .ok (.laload, 1) := by decide +kernel
theorem d_L_law_770 : decode b_L_law 770 = .ok (.iload 6, 2) := by decide +kernel
theorem d_L_law_772 : decode b_L_law 772 = .ok (.i2l, 1) := by decide +kernel
theorem d_L_law_773 : decode b_L_law 773 = .ok (.lcmp, 1) := by decide +kernel
theorem d_L_law_774 : decode b_L_law 774 = .ok (.ifCond .eq 5, 3) := by decide +kernel
theorem d_L_law_777 : decode b_L_law 777 = .ok (.iconst 0, 1) := by decide +kernel
theorem d_L_law_778 : decode b_L_law 778 = .ok (.ireturn, 1) := by decide +kernel
theorem d_L_law_779 : decode b_L_law 779 = .ok (.goto 78, 3) := by decide +kernel
theorem d_L_law_782 : decode b_L_law 782 = .ok (.aload_n 1, 1) := by decide +kernel
theorem d_L_law_783 : decode b_L_law 783 = .ok (.aload_n 0, 1) := by decide +kernel
theorem d_L_law_784 : decode b_L_law 784 = .ok (.iload 4, 2) := by decide +kernel
theorem d_L_law_786 : decode b_L_law 786 = .ok (.iconst 1, 1) := by decide +kernel
theorem d_L_law_787 : decode b_L_law 787 = .ok (.iadd, 1) := by decide +kernel
theorem d_L_law_788 : decode b_L_law 788 = .ok (.iaload, 1) := by decide +kernel
theorem d_L_law_789 : decode b_L_law 789 = .ok (.aload_n 0, 1) := by decide +kernel
theorem d_L_law_790 : decode b_L_law 790 = .ok (.iload 4, 2) := by decide +kernel
theorem d_L_law_792 : decode b_L_law 792 = .ok (.iconst 2, 1) := by decide +kernel
theorem d_L_law_793 : decode b_L_law 793 = .ok (.iadd, 1) := by decide +kernel
theorem d_L_law_794 : decode b_L_law 794 = .ok (.iaload, 1) := by decide +kernel
theorem d_L_law_795 : decode b_L_law 795 = .ok (.aload_n 3, 1) := by decide +kernel
theorem d_L_law_796 : decode b_L_law 796 = .ok (.invokestatic 100, 3) := by decide +kernel
theorem d_L_law_799 : decode b_L_law 799 = .ok (.istore 5, 2) := by decide +kernel
theorem d_L_law_801 : decode b_L_law 801 = .ok (.aload_n 2, 1) := by decide +kernel
theorem d_L_law_802 : decode b_L_law 802 = .ok (.aload_n 0, 1) := by decide +kernel
theorem d_L_law_803 : decode b_L_law 803 = .ok (.iload 4, 2) := by decide +kernel
theorem d_L_law_805 : decode b_L_law 805 = .ok (.iconst 1, 1) := by decide +kernel
theorem d_L_law_806 : decode b_L_law 806 = .ok (.iadd, 1) := by decide +kernel
theorem d_L_law_807 : decode b_L_law 807 = .ok (.iaload, 1) := by decide +kernel
theorem d_L_law_808 : decode b_L_law 808 = .ok (.aload_n 0, 1) := by decide +kernel
theorem d_L_law_809 : decode b_L_law 809 = .ok (.iload 4, 2) := by decide +kernel
theorem d_L_law_811 : decode b_L_law 811 = .ok (.iconst 2, 1) := by decide +kernel
theorem d_L_law_812 : decode b_L_law 812 = .ok (.iadd, 1) := by decide +kernel
theorem d_L_law_813 : decode b_L_law 813 = .ok (.iaload, 1) := by decide +kernel
theorem d_L_law_814 : decode b_L_law 814 = .ok (.invokevirtual 102, 3) := by decide +kernel
theorem d_L_law_817 : decode b_L_law 817 = .ok (.istore 6, 2) := by decide +kernel
theorem d_L_law_819 : decode b_L_law 819 = .ok (.aload_n 2, 1) := by decide +kernel
theorem d_L_law_820 : decode b_L_law 820 = .ok (.invokevirtual 66, 3) := by decide +kernel
theorem d_L_law_823 : decode b_L_law 823 = .ok (.iload 5, 2) := by decide +kernel
theorem d_L_law_825 : decode b_L_law 825 = .ok (.if_icmp .eq 5, 3) := by decide +kernel
theorem d_L_law_828 : decode b_L_law 828 = .ok (.iconst 0, 1) := by decide +kernel
theorem d_L_law_829 : decode b_L_law 829 = .ok (.ireturn, 1) := by decide +kernel
theorem d_L_law_830 : decode b_L_law 830 = .ok (.iload 5, 2) := by decide +kernel
theorem d_L_law_832 : decode b_L_law 832 = .ok (.ifCond .ne 22, 3) := by decide +kernel
theorem d_L_law_835 : decode b_L_law 835 = .ok (.aload_n 3, 1) := by decide +kernel
theorem d_L_law_836 : decode b_L_law 836 = .ok (.iconst 0, 1) := by decide +kernel
theorem d_L_law_837 : decode b_L_law 837 = .ok (.laload, 1) := by decide +kernel
theorem d_L_law_838 : decode b_L_law 838 = .ok (.iload 6, 2) := by decide +kernel
theorem d_L_law_840 : decode b_L_law 840 = .ok (.ifCond .eq 7, 3) := by decide +kernel
theorem d_L_law_843 : decode b_L_law 843 = .ok (.lconst 1, 1) := by decide +kernel
theorem d_L_law_844 : decode b_L_law 844 = .ok (.goto 4, 3) := by decide +kernel
theorem d_L_law_847 : decode b_L_law 847 = .ok (.lconst 0, 1) := by decide +kernel
theorem d_L_law_848 : decode b_L_law 848 = .ok (.lcmp, 1) := by decide +kernel
theorem d_L_law_849 : decode b_L_law 849 = .ok (.ifCond .eq 5, 3) := by decide +kernel
theorem d_L_law_852 : decode b_L_law 852 = .ok (.iconst 0, 1) := by decide +kernel
theorem d_L_law_853 : decode b_L_law 853 = .ok (.ireturn, 1) := by decide +kernel
theorem d_L_law_854 : decode b_L_law 854 = .ok (.goto 3, 3) := by decide +kernel
theorem d_L_law_857 : decode b_L_law 857 = .ok (.iinc 4 5, 3) := by decide +kernel
theorem d_L_law_860 : decode b_L_law 860 = .ok (.goto (-837), 3) := by decide +kernel
theorem d_L_law_863 : decode b_L_law 863 = .ok (.iconst 1, 1) := by decide +kernel
theorem d_L_law_864 : decode b_L_law 864 = .ok (.ireturn, 1) := by decide +kernel
