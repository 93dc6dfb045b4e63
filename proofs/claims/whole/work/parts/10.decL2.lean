theorem dLw_law_656 : decode mLw_law.2.1 656 = .ok (.iload_n 3, 1) := by decide +kernel
theorem dLw_law_657 : decode mLw_law.2.1 657 = .ok (.iconst 2, 1) := by decide +kernel
theorem dLw_law_658 : decode mLw_law.2.1 658 = .ok (.iadd, 1) := by decide +kernel
theorem dLw_law_659 : decode mLw_law.2.1 659 = .ok (.iaload, 1) := by decide +kernel
theorem dLw_law_660 : decode mLw_law.2.1 660 = .ok (.aload_n 0, 1) := by decide +kernel
theorem dLw_law_661 : decode mLw_law.2.1 661 = .ok (.iload_n 3, 1) := by decide +kernel
theorem dLw_law_662 : decode mLw_law.2.1 662 = .ok (.iconst 3, 1) := by decide +kernel
theorem dLw_law_663 : decode mLw_law.2.1 663 = .ok (.iadd, 1) := by decide +kernel
theorem dLw_law_664 : decode mLw_law.2.1 664 = .ok (.iaload, 1) := by decide +kernel
theorem dLw_law_665 : decode mLw_law.2.1 665 = .ok (.invokevirtual 63, 3) := by decide +kernel
theorem dLw_law_668 : decode mLw_law.2.1 668 = .ok (.lcmp, 1) := by decide +kernel
theorem dLw_law_669 : decode mLw_law.2.1 669 = .ok (.ifCond .eq 499, 3) := by decide +kernel
theorem dLw_law_672 : decode mLw_law.2.1 672 = .ok (.iconst 0, 1) := by decide +kernel
theorem dLw_law_673 : decode mLw_law.2.1 673 = .ok (.ireturn, 1) := by decide +kernel
theorem dLw_law_674 : decode mLw_law.2.1 674 = .ok (.aload_n 1, 1) := by decide +kernel
theorem dLw_law_675 : decode mLw_law.2.1 675 = .ok (.aload_n 0, 1) := by decide +kernel
theorem dLw_law_676 : decode mLw_law.2.1 676 = .ok (.iload_n 3, 1) := by decide +kernel
theorem dLw_law_677 : decode mLw_law.2.1 677 = .ok (.iconst 1, 1) := by decide +kernel
theorem dLw_law_678 : decode mLw_law.2.1 678 = .ok (.iadd, 1) := by decide +kernel
theorem dLw_law_679 : decode mLw_law.2.1 679 = .ok (.iaload, 1) := by decide +kernel
theorem dLw_law_680 : decode mLw_law.2.1 680 = .ok (.aload_n 0, 1) := by decide +kernel
theorem dLw_law_681 : decode mLw_law.2.1 681 = .ok (.iload_n 3, 1) := by decide +kernel
theorem dLw_law_682 : decode mLw_law.2.1 682 = .ok (.iconst 2, 1) := by decide +kernel
theorem dLw_law_683 : decode mLw_law.2.1 683 = .ok (.iadd, 1) := by decide +kernel
theorem dLw_law_684 : decode mLw_law.2.1 684 = .ok (.iaload, 1) := by decide +kernel
theorem dLw_law_685 : decode mLw_law.2.1 685 = .ok (.invokevirtual 64, 3) := by decide +kernel
theorem dLw_law_688 : decode mLw_law.2.1 688 = .ok (.aload_n 2, 1) := by decide +kernel
theorem dLw_law_689 : decode mLw_law.2.1 689 = .ok (.aload_n 0, 1) := by decide +kernel
theorem dLw_law_690 : decode mLw_law.2.1 690 = .ok (.iload_n 3, 1) := by decide +kernel
theorem dLw_law_691 : decode mLw_law.2.1 691 = .ok (.iconst 1, 1) := by decide +kernel
theorem dLw_law_692 : decode mLw_law.2.1 692 = .ok (.iadd, 1) := by decide +kernel
theorem dLw_law_693 : decode mLw_law.2.1 693 = .ok (.iaload, 1) := by decide +kernel
theorem dLw_law_694 : decode mLw_law.2.1 694 = .ok (.aload_n 0, 1) := by decide +kernel
theorem dLw_law_695 : decode mLw_law.2.1 695 = .ok (.iload_n 3, 1) := by decide +kernel
theorem dLw_law_696 : decode mLw_law.2.1 696 = .ok (.iconst 2, 1) := by decide +kernel
theorem dLw_law_697 : decode mLw_law.2.1 697 = .ok (.iadd, 1) := by decide +kernel
theorem dLw_law_698 : decode mLw_law.2.1 698 = .ok (.iaload, 1) := by decide +kernel
theorem dLw_law_699 : decode mLw_law.2.1 699 = .ok (.invokevirtual 68, 3) := by decide +kernel
theorem dLw_law_702 : decode mLw_law.2.1 702 = .ok (.if_icmp .eq 466, 3) := by decide +kernel
theorem dLw_law_705 : decode mLw_law.2.1 705 = .ok (.iconst 0, 1) := by decide +kernel
theorem dLw_law_706 : decode mLw_law.2.1 706 = .ok (.ireturn, 1) := by decide +kernel
theorem dLw_law_707 : decode mLw_law.2.1 707 = .ok (.aload_n 1, 1) := by decide +kernel
theorem dLw_law_708 : decode mLw_law.2.1 708 = .ok (.aload_n 0, 1) := by decide +kernel
theorem dLw_law_709 : decode mLw_law.2.1 709 = .ok (.iload_n 3, 1) := by decide +kernel
theorem dLw_law_710 : decode mLw_law.2.1 710 = .ok (.iconst 1, 1) := by decide +kernel
theorem dLw_law_711 : decode mLw_law.2.1 711 = .ok (.iadd, 1) := by decide +kernel
theorem dLw_law_712 : decode mLw_law.2.1 712 = .ok (.iaload, 1) := by decide +kernel
theorem dLw_law_713 : decode mLw_law.2.1 713 = .ok (.invokevirtual 69, 3) := by decide +kernel
theorem dLw_law_716 : decode mLw_law.2.1 716 = .ok (.aload_n 2, 1) := by decide +kernel
theorem dLw_law_717 : decode mLw_law.2.1 717 = .ok (.aload_n 0, 1) := by decide +kernel
theorem dLw_law_718 : decode mLw_law.2.1 718 = .ok (.iload_n 3, 1) := by decide +kernel
theorem dLw_law_719 : decode mLw_law.2.1 719 = .ok (.iconst 1, 1) := by decide +kernel
theorem dLw_law_720 : decode mLw_law.2.1 720 = .ok (.iadd, 1) := by decide +kernel
theorem dLw_law_721 : decode mLw_law.2.1 721 = .ok (.iaload, 1) := by decide +kernel
theorem dLw_law_722 : decode mLw_law.2.1 722 = .ok (.invokevirtual 73, 3) := by decide +kernel
theorem dLw_law_725 : decode mLw_law.2.1 725 = .ok (.if_icmp .eq 443, 3) := by decide +kernel
theorem dLw_law_728 : decode mLw_law.2.1 728 = .ok (.iconst 0, 1) := by decide +kernel
theorem dLw_law_729 : decode mLw_law.2.1 729 = .ok (.ireturn, 1) := by decide +kernel
theorem dLw_law_730 : decode mLw_law.2.1 730 = .ok (.aload_n 1, 1) := by decide +kernel
theorem dLw_law_731 : decode mLw_law.2.1 731 = .ok (.aload_n 0, 1) := by decide +kernel
theorem dLw_law_732 : decode mLw_law.2.1 732 = .ok (.iload_n 3, 1) := by decide +kernel
theorem dLw_law_733 : decode mLw_law.2.1 733 = .ok (.iconst 1, 1) := by decide +kernel
theorem dLw_law_734 : decode mLw_law.2.1 734 = .ok (.iadd, 1) := by decide +kernel
theorem dLw_law_735 : decode mLw_law.2.1 735 = .ok (.iaload, 1) := by decide +kernel
theorem dLw_law_736 : decode mLw_law.2.1 736 = .ok (.aload_n 0, 1) := by decide +kernel
theorem dLw_law_737 : decode mLw_law.2.1 737 = .ok (.iload_n 3, 1) := by decide +kernel
theorem dLw_law_738 : decode mLw_law.2.1 738 = .ok (.iconst 2, 1) := by decide +kernel
theorem dLw_law_739 : decode mLw_law.2.1 739 = .ok (.iadd, 1) := by decide +kernel
theorem dLw_law_740 : decode mLw_law.2.1 740 = .ok (.iaload, 1) := by decide +kernel
theorem dLw_law_741 : decode mLw_law.2.1 741 = .ok (.invokevirtual 74, 3) := by decide +kernel
theorem dLw_law_744 : decode mLw_law.2.1 744 = .ok (.aload_n 2, 1) := by decide +kernel
theorem dLw_law_745 : decode mLw_law.2.1 745 = .ok (.aload_n 0, 1) := by decide +kernel
theorem dLw_law_746 : decode mLw_law.2.1 746 = .ok (.iload_n 3, 1) := by decide +kernel
theorem dLw_law_747 : decode mLw_law.2.1 747 = .ok (.iconst 1, 1) := by decide +kernel
theorem dLw_law_748 : decode mLw_law.2.1 748 = .ok (.iadd, 1) := by decide +kernel
theorem dLw_law_749 : decode mLw_law.2.1 749 = .ok (.iaload, 1) := by decide +kernel
theorem dLw_law_750 : decode mLw_law.2.1 750 = .ok (.aload_n 0, 1) := by decide +kernel
theorem dLw_law_751 : decode mLw_law.2.1 751 = .ok (.iload_n 3, 1) := by decide +kernel
theorem dLw_law_752 : decode mLw_law.2.1 752 = .ok (.iconst 2, 1) := by decide +kernel
theorem dLw_law_753 : decode mLw_law.2.1 753 = .ok (.iadd, 1) := by decide +kernel
theorem dLw_law_754 : decode mLw_law.2.1 754 = .ok (.iaload, 1) := by decide +kernel
theorem dLw_law_755 : decode mLw_law.2.1 755 = .ok (.invokevirtual 77, 3) := by decide +kernel
theorem dLw_law_758 : decode mLw_law.2.1 758 = .ok (.if_icmp .eq 410, 3) := by decide +kernel
theorem dLw_law_761 : decode mLw_law.2.1 761 = .ok (.iconst 0, 1) := by decide +kernel
theorem dLw_law_762 : decode mLw_law.2.1 762 = .ok (.ireturn, 1) := by decide +kernel
theorem dLw_law_763 : decode mLw_law.2.1 763 = .ok (.aload_n 1, 1) := by decide +kernel
theorem dLw_law_764 : decode mLw_law.2.1 764 = .ok (.aload_n 0, 1) := by decide +kernel
theorem dLw_law_765 : decode mLw_law.2.1 765 = .ok (.iload_n 3, 1) := by decide +kernel
theorem dLw_law_766 : decode mLw_law.2.1 766 = .ok (.iconst 1, 1) := by decide +kernel
theorem dLw_law_767 : decode mLw_law.2.1 767 = .ok (.iadd, 1) := by decide +kernel
theorem dLw_law_768 : decode mLw_law.2.1 768 = .ok (.iaload, 1) := by decide +kernel
theorem dLw_law_769 : decode mLw_law.2.1 769 = .ok (.invokevirtual 78, 3) := by decide +kernel
theorem dLw_law_772 : decode mLw_law.2.1 772 = .ok (.aload_n 2, 1) := by decide +kernel
theorem dLw_law_773 : decode mLw_law.2.1 773 = .ok (.aload_n 0, 1) := by decide +kernel
theorem dLw_law_774 : decode mLw_law.2.1 774 = .ok (.iload_n 3, 1) := by decide +kernel
theorem dLw_law_775 : decode mLw_law.2.1 775 = .ok (.iconst 1, 1) := by decide +kernel
theorem dLw_law_776 : decode mLw_law.2.1 776 = .ok (.iadd, 1) := by decide +kernel
theorem dLw_law_777 : decode mLw_law.2.1 777 = .ok (.iaload, 1) := by decide +kernel
theorem dLw_law_778 : decode mLw_law.2.1 778 = .ok (.invokevirtual 81, 3) := by decide +kernel
theorem dLw_law_781 : decode mLw_law.2.1 781 = .ok (.if_icmp .eq 387, 3) := by decide +kernel
theorem dLw_law_784 : decode mLw_law.2.1 784 = .ok (.iconst 0, 1) := by decide +kernel
theorem dLw_law_785 : decode mLw_law.2.1 785 = .ok (.ireturn, 1) := by decide +kernel
theorem dLw_law_786 : decode mLw_law.2.1 786 = .ok (.aload_n 1, 1) := by decide +kernel
theorem dLw_law_787 : decode mLw_law.2.1 787 = .ok (.aload_n 0, 1) := by decide +kernel
theorem dLw_law_788 : decode mLw_law.2.1 788 = .ok (.iload_n 3, 1) := by decide +kernel
theorem dLw_law_789 : decode mLw_law.2.1 789 = .ok (.iconst 1, 1) := by decide +kernel
theorem dLw_law_790 : decode mLw_law.2.1 790 = .ok (.iadd, 1) := by decide +kernel
theorem dLw_law_791 : decode mLw_law.2.1 791 = .ok (.iaload, 1) := by decide +kernel
theorem dLw_law_792 : decode mLw_law.2.1 792 = .ok (.invokevirtual 82, 3) := by decide +kernel
theorem dLw_law_795 : decode mLw_law.2.1 795 = .ok (.aload_n 2, 1) := by decide +kernel
theorem dLw_law_796 : decode mLw_law.2.1 796 = .ok (.aload_n 0, 1) := by decide +kernel
theorem dLw_law_797 : decode mLw_law.2.1 797 = .ok (.iload_n 3, 1) := by decide +kernel
theorem dLw_law_798 : decode mLw_law.2.1 798 = .ok (.iconst 1, 1) := by decide +kernel
theorem dLw_law_799 : decode mLw_law.2.1 799 = .ok (.iadd, 1) := by decide +kernel
theorem dLw_law_800 : decode mLw_law.2.1 800 = .ok (.iaload, 1) := by decide +kernel
theorem dLw_law_801 : decode mLw_law.2.1 801 = .ok (.invokevirtual 86, 3) := by decide +kernel
theorem dLw_law_804 : decode mLw_law.2.1 804 = .ok (.if_icmp .eq 364, 3) := by decide +kernel
theorem dLw_law_807 : decode mLw_law.2.1 807 = .ok (.iconst 0, 1) := by decide +kernel
theorem dLw_law_808 : decode mLw_law.2.1 808 = .ok (.ireturn, 1) := by decide +kernel
theorem dLw_law_809 : decode mLw_law.2.1 809 = .ok (.aload_n 1, 1) := by decide +kernel
theorem dLw_law_810 : decode mLw_law.2.1 810 = .ok (.invokevirtual 87, 3) := by decide +kernel
theorem dLw_law_813 : decode mLw_law.2.1 813 = .ok (.aload_n 2, 1) := by decide +kernel
theorem dLw_law_814 : decode mLw_law.2.1 814 = .ok (.invokevirtual 90, 3) := by decide +kernel
theorem dLw_law_817 : decode mLw_law.2.1 817 = .ok (.if_icmp .eq 351, 3) := by decide +kernel
theorem dLw_law_820 : decode mLw_law.2.1 820 = .ok (.iconst 0, 1) := by decide +kernel
theorem dLw_law_821 : decode mLw_law.2.1 821 = .ok (.ireturn, 1) := by decide +kernel
theorem dLw_law_822 : decode mLw_law.2.1 822 = .ok (.aload_n 1, 1) := by decide +kernel
theorem dLw_law_823 : decode mLw_law.2.1 823 = .ok (.aload_n 0, 1) := by decide +kernel
theorem dLw_law_824 : decode mLw_law.2.1 824 = .ok (.iload_n 3, 1) := by decide +kernel
theorem dLw_law_825 : decode mLw_law.2.1 825 = .ok (.iconst 1, 1) := by decide +kernel
theorem dLw_law_826 : decode mLw_law.2.1 826 = .ok (.iadd, 1) := by decide +kernel
theorem dLw_law_827 : decode mLw_law.2.1 827 = .ok (.iaload, 1) := by decide +kernel
theorem dLw_law_828 : decode mLw_law.2.1 828 = .ok (.aload_n 0, 1) := by decide +kernel
theorem dLw_law_829 : decode mLw_law.2.1 829 = .ok (.iload_n 3, 1) := by decide +kernel
theorem dLw_law_830 : decode mLw_law.2.1 830 = .ok (.iconst 2, 1) := by decide +kernel
theorem dLw_law_831 : decode mLw_law.2.1 831 = .ok (.iadd, 1) := by decide +kernel
theorem dLw_law_832 : decode mLw_law.2.1 832 = .ok (.iaload, 1) := by decide +kernel
theorem dLw_law_833 : decode mLw_law.2.1 833 = .ok (.aload_n 0, 1) := by decide +kernel
theorem dLw_law_834 : decode mLw_law.2.1 834 = .ok (.iload_n 3, 1) := by decide +kernel
theorem dLw_law_835 : decode mLw_law.2.1 835 = .ok (.iconst 3, 1) := by decide +kernel
theorem dLw_law_836 : decode mLw_law.2.1 836 = .ok (.iadd, 1) := by decide +kernel
theorem dLw_law_837 : decode mLw_law.2.1 837 = .ok (.iaload, 1) := by decide +kernel
theorem dLw_law_838 : decode mLw_law.2.1 838 = .ok (.invokevirtual 91, 3) := by decide +kernel
theorem dLw_law_841 : decode mLw_law.2.1 841 = .ok (.aload_n 2, 1) := by decide +kernel
theorem dLw_law_842 : decode mLw_law.2.1 842 = .ok (.aload_n 0, 1) := by decide +kernel
theorem dLw_law_843 : decode mLw_law.2.1 843 = .ok (.iload_n 3, 1) := by decide +kernel
theorem dLw_law_844 : decode mLw_law.2.1 844 = .ok (.iconst 1, 1) := by decide +kernel
theorem dLw_law_845 : decode mLw_law.2.1 845 = .ok (.iadd, 1) := by decide +kernel
theorem dLw_law_846 : decode mLw_law.2.1 846 = .ok (.iaload, 1) := by decide +kernel
theorem dLw_law_847 : decode mLw_law.2.1 847 = .ok (.aload_n 0, 1) := by decide +kernel
theorem dLw_law_848 : decode mLw_law.2.1 848 = .ok (.iload_n 3, 1) := by decide +kernel
theorem dLw_law_849 : decode mLw_law.2.1 849 = .ok (.iconst 2, 1) := by decide +kernel
theorem dLw_law_850 : decode mLw_law.2.1 850 = .ok (.iadd, 1) := by decide +kernel
theorem dLw_law_851 : decode mLw_law.2.1 851 = .ok (.iaload, 1) := by decide +kernel
theorem dLw_law_852 : decode mLw_law.2.1 852 = .ok (.aload_n 0, 1) := by decide +kernel
theorem dLw_law_853 : decode mLw_law.2.1 853 = .ok (.iload_n 3, 1) := by decide +kernel
theorem dLw_law_854 : decode mLw_law.2.1 854 = .ok (.iconst 3, 1) := by decide +kernel
theorem dLw_law_855 : decode mLw_law.2.1 855 = .ok (.iadd, 1) := by decide +kernel
theorem dLw_law_856 : decode mLw_law.2.1 856 = .ok (.iaload, 1) := by decide +kernel
theorem dLw_law_857 : decode mLw_law.2.1 857 = .ok (.invokevirtual 95, 3) := by decide +kernel
theorem dLw_law_860 : decode mLw_law.2.1 860 = .ok (.if_icmp .eq 308, 3) := by decide +kernel
theorem dLw_law_863 : decode mLw_law.2.1 863 = .ok (.iconst 0, 1) := by decide +kernel
theorem dLw_law_864 : decode mLw_law.2.1 864 = .ok (.ireturn, 1) := by decide +kernel
theorem dLw_law_865 : decode mLw_law.2.1 865 = .ok (.aload_n 1, 1) := by decide +kernel
theorem dLw_law_866 : decode mLw_law.2.1 866 = .ok (.aload_n 0, 1) := by decide +kernel
theorem dLw_law_867 : decode mLw_law.2.1 867 = .ok (.iload_n 3, 1) := by decide +kernel
theorem dLw_law_868 : decode mLw_law.2.1 868 = .ok (.iconst 1, 1) := by decide +kernel
theorem dLw_law_869 : decode mLw_law.2.1 869 = .ok (.iadd, 1) := by decide +kernel
theorem dLw_law_870 : decode mLw_law.2.1 870 = .ok (.iaload, 1) := by decide +kernel
theorem dLw_law_871 : decode mLw_law.2.1 871 = .ok (.invokevirtual 96, 3) := by decide +kernel
theorem dLw_law_874 : decode mLw_law.2.1 874 = .ok (.aload_n 2, 1) := by decide +kernel
theorem dLw_law_875 : decode mLw_law.2.1 875 = .ok (.aload_n 0, 1) := by decide +kernel
theorem dLw_law_876 : decode mLw_law.2.1 876 = .ok (.iload_n 3, 1) := by decide +kernel
theorem dLw_law_877 : decode mLw_law.2.1 877 = .ok (.iconst 1, 1) := by decide +kernel
theorem dLw_law_878 : decode mLw_law.2.1 878 = .ok (.iadd, 1) := by decide +kernel
theorem dLw_law_879 : decode mLw_law.2.1 879 = .ok (.iaload, 1) := by decide +kernel
theorem dLw_law_880 : decode mLw_law.2.1 880 = .ok (.invokevirtual 99, 3) := by decide +kernel
theorem dLw_law_883 : decode mLw_law.2.1 883 = .ok (.if_icmp .eq 285, 3) := by decide +kernel
theorem dLw_law_886 : decode mLw_law.2.1 886 = .ok (.iconst 0, 1) := by decide +kernel
theorem dLw_law_887 : decode mLw_law.2.1 887 = .ok (.ireturn, 1) := by decide +kernel
theorem dLw_law_888 : decode mLw_law.2.1 888 = .ok (.aload_n 1, 1) := by decide +kernel
theorem dLw_law_889 : decode mLw_law.2.1 889 = .ok (.aload_n 0, 1) := by decide +kernel
theorem dLw_law_890 : decode mLw_law.2.1 890 = .ok (.iload_n 3, 1) := by decide +kernel
theorem dLw_law_891 : decode mLw_law.2.1 891 = .ok (.iconst 1, 1) := by decide +kernel
theorem dLw_law_892 : decode mLw_law.2.1 892 = .ok (.iadd, 1) := by decide +kernel
theorem dLw_law_893 : decode mLw_law.2.1 893 = .ok (.iaload, 1) := by decide +kernel
theorem dLw_law_894 : decode mLw_law.2.1 894 = .ok (.aload_n 0, 1) := by decide +kernel
theorem dLw_law_895 : decode mLw_law.2.1 895 = .ok (.iload_n 3, 1) := by decide +kernel
theorem dLw_law_896 : decode mLw_law.2.1 896 = .ok (.iconst 2, 1) := by decide +kernel
theorem dLw_law_897 : decode mLw_law.2.1 897 = .ok (.iadd, 1) := by decide +kernel
theorem dLw_law_898 : decode mLw_law.2.1 898 = .ok (.iaload, 1) := by decide +kernel
theorem dLw_law_899 : decode mLw_law.2.1 899 = .ok (.i2l, 1) := by decide +kernel
theorem dLw_law_900 : decode mLw_law.2.1 900 = .ok (.bipush 32, 2) := by decide +kernel
theorem dLw_law_902 : decode mLw_law.2.1 902 = .ok (.lshl, 1) := by decide +kernel
theorem dLw_law_903 : decode mLw_law.2.1 903 = .ok (.aload_n 0, 1) := by decide +kernel
theorem dLw_law_904 : decode mLw_law.2.1 904 = .ok (.iload_n 3, 1) := by decide +kernel
theorem dLw_law_905 : decode mLw_law.2.1 905 = .ok (.iconst 3, 1) := by decide +kernel
theorem dLw_law_906 : decode mLw_law.2.1 906 = .ok (.iadd, 1) := by decide +kernel
theorem dLw_law_907 : decode mLw_law.2.1 907 = .ok (.iaload, 1) := by decide +kernel
theorem dLw_law_908 : decode mLw_law.2.1 908 = .ok (.i2l, 1) := by decide +kernel
theorem dLw_law_909 : decode mLw_law.2.1 909 = .ok (.ldc2_w 13, 3) := by decide +kernel
theorem dLw_law_912 : decode mLw_law.2.1 912 = .ok (.land, 1) := by decide +kernel
theorem dLw_law_913 : decode mLw_law.2.1 913 = .ok (.lor, 1) := by decide +kernel
theorem dLw_law_914 : decode mLw_law.2.1 914 = .ok (.aload_n 0, 1) := by decide +kernel
theorem dLw_law_915 : decode mLw_law.2.1 915 = .ok (.iload_n 3, 1) := by decide +kernel
theorem dLw_law_916 : decode mLw_law.2.1 916 = .ok (.iconst 4, 1) := by decide +kernel
theorem dLw_law_917 : decode mLw_law.2.1 917 = .ok (.iadd, 1) := by decide +kernel
theorem dLw_law_918 : decode mLw_law.2.1 918 = .ok (.iaload, 1) := by decide +kernel
theorem dLw_law_919 : decode mLw_law.2.1 919 = .ok (.invokevirtual 100, 3) := by decide +kernel
theorem dLw_law_922 : decode mLw_law.2.1 922 = .ok (.aload_n 2, 1) := by decide +kernel
theorem dLw_law_923 : decode mLw_law.2.1 923 = .ok (.aload_n 0, 1) := by decide +kernel
theorem dLw_law_924 : decode mLw_law.2.1 924 = .ok (.iload_n 3, 1) := by decide +kernel
theorem dLw_law_925 : decode mLw_law.2.1 925 = .ok (.iconst 1, 1) := by decide +kernel
theorem dLw_law_926 : decode mLw_law.2.1 926 = .ok (.iadd, 1) := by decide +kernel
theorem dLw_law_927 : decode mLw_law.2.1 927 = .ok (.iaload, 1) := by decide +kernel
theorem dLw_law_928 : decode mLw_law.2.1 928 = .ok (.aload_n 0, 1) := by decide +kernel
theorem dLw_law_929 : decode mLw_law.2.1 929 = .ok (.iload_n 3, 1) := by decide +kernel
theorem dLw_law_930 : decode mLw_law.2.1 930 = .ok (.iconst 2, 1) := by decide +kernel
theorem dLw_law_931 : decode mLw_law.2.1 931 = .ok (.iadd, 1) := by decide +kernel
theorem dLw_law_932 : decode mLw_law.2.1 932 = .ok (.iaload, 1) := by decide +kernel
