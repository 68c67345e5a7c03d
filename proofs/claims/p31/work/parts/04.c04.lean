theorem dL_acts_739 : decode cL_acts 739 = .ok (.iconst 0, 1) := by decide +kernel
theorem dL_acts_740 : decode cL_acts 740 = .ok (.istore 11, 2) := by decide +kernel
theorem dL_acts_742 : decode cL_acts 742 = .ok (.iload 11, 2) := by decide +kernel
theorem dL_acts_744 : decode cL_acts 744 = .ok (.bipush 8, 2) := by decide +kernel
theorem dL_acts_746 : decode cL_acts 746 = .ok (.if_icmp .ge 178, 3) := by decide +kernel
theorem dL_acts_749 : decode cL_acts 749 = .ok (.aload_n 3, 1) := by decide +kernel
theorem dL_acts_750 : decode cL_acts 750 = .ok (.aload 4, 2) := by decide +kernel
theorem dL_acts_752 : decode cL_acts 752 = .ok (.aload 6, 2) := by decide +kernel
theorem dL_acts_754 : decode cL_acts 754 = .ok (.aload 7, 2) := by decide +kernel
theorem dL_acts_756 : decode cL_acts 756 = .ok (.iload 11, 2) := by decide +kernel
theorem dL_acts_758 : decode cL_acts 758 = .ok (.iconst (-1), 1) := by decide +kernel
theorem dL_acts_759 : decode cL_acts 759 = .ok (.invokestatic 15, 3) := by decide +kernel
theorem dL_acts_762 : decode cL_acts 762 = .ok (.istore 12, 2) := by decide +kernel
theorem dL_acts_764 : decode cL_acts 764 = .ok (.aload 9, 2) := by decide +kernel
theorem dL_acts_766 : decode cL_acts 766 = .ok (.aload 7, 2) := by decide +kernel
theorem dL_acts_768 : decode cL_acts 768 = .ok (.iconst 4, 1) := by decide +kernel
theorem dL_acts_769 : decode cL_acts 769 = .ok (.iaload, 1) := by decide +kernel
theorem dL_acts_770 : decode cL_acts 770 = .ok (.dup2, 1) := by decide +kernel
theorem dL_acts_771 : decode cL_acts 771 = .ok (.iaload, 1) := by decide +kernel
theorem dL_acts_772 : decode cL_acts 772 = .ok (.aload_n 3, 1) := by decide +kernel
theorem dL_acts_773 : decode cL_acts 773 = .ok (.aload 4, 2) := by decide +kernel
theorem dL_acts_775 : decode cL_acts 775 = .ok (.aload 6, 2) := by decide +kernel
theorem dL_acts_777 : decode cL_acts 777 = .ok (.aload 7, 2) := by decide +kernel
theorem dL_acts_779 : decode cL_acts 779 = .ok (.iload 11, 2) := by decide +kernel
theorem dL_acts_781 : decode cL_acts 781 = .ok (.aload 7, 2) := by decide +kernel
theorem dL_acts_783 : decode cL_acts 783 = .ok (.iconst 4, 1) := by decide +kernel
theorem dL_acts_784 : decode cL_acts 784 = .ok (.iaload, 1) := by decide +kernel
theorem dL_acts_785 : decode cL_acts 785 = .ok (.invokestatic 124, 3) := by decide +kernel
theorem dL_acts_788 : decode cL_acts 788 = .ok (.ifCond .eq 7, 3) := by decide +kernel
theorem dL_acts_791 : decode cL_acts 791 = .ok (.iconst 1, 1) := by decide +kernel
theorem dL_acts_792 : decode cL_acts 792 = .ok (.goto 4, 3) := by decide +kernel
theorem dL_acts_795 : decode cL_acts 795 = .ok (.iconst 0, 1) := by decide +kernel
theorem dL_acts_796 : decode cL_acts 796 = .ok (.iadd, 1) := by decide +kernel
theorem dL_acts_797 : decode cL_acts 797 = .ok (.iastore, 1) := by decide +kernel
theorem dL_acts_798 : decode cL_acts 798 = .ok (.aload 9, 2) := by decide +kernel
theorem dL_acts_800 : decode cL_acts 800 = .ok (.bipush 20, 2) := by decide +kernel
theorem dL_acts_802 : decode cL_acts 802 = .ok (.aload 7, 2) := by decide +kernel
theorem dL_acts_804 : decode cL_acts 804 = .ok (.iconst 4, 1) := by decide +kernel
theorem dL_acts_805 : decode cL_acts 805 = .ok (.iaload, 1) := by decide +kernel
theorem dL_acts_806 : decode cL_acts 806 = .ok (.iadd, 1) := by decide +kernel
theorem dL_acts_807 : decode cL_acts 807 = .ok (.dup2, 1) := by decide +kernel
theorem dL_acts_808 : decode cL_acts 808 = .ok (.iaload, 1) := by decide +kernel
theorem dL_acts_809 : decode cL_acts 809 = .ok (.iload 12, 2) := by decide +kernel
theorem dL_acts_811 : decode cL_acts 811 = .ok (.ifCond .lt 22, 3) := by decide +kernel
theorem dL_acts_814 : decode cL_acts 814 = .ok (.aload 6, 2) := by decide +kernel
theorem dL_acts_816 : decode cL_acts 816 = .ok (.iload 12, 2) := by decide +kernel
theorem dL_acts_818 : decode cL_acts 818 = .ok (.iaload, 1) := by decide +kernel
theorem dL_acts_819 : decode cL_acts 819 = .ok (.bipush 100, 2) := by decide +kernel
theorem dL_acts_821 : decode cL_acts 821 = .ok (.idiv, 1) := by decide +kernel
theorem dL_acts_822 : decode cL_acts 822 = .ok (.aload 7, 2) := by decide +kernel
theorem dL_acts_824 : decode cL_acts 824 = .ok (.iconst 4, 1) := by decide +kernel
theorem dL_acts_825 : decode cL_acts 825 = .ok (.iaload, 1) := by decide +kernel
theorem dL_acts_826 : decode cL_acts 826 = .ok (.if_icmp .ne 7, 3) := by decide +kernel
theorem dL_acts_829 : decode cL_acts 829 = .ok (.iconst 1, 1) := by decide +kernel
theorem dL_acts_830 : decode cL_acts 830 = .ok (.goto 4, 3) := by decide +kernel
theorem dL_acts_833 : decode cL_acts 833 = .ok (.iconst 0, 1) := by decide +kernel
theorem dL_acts_834 : decode cL_acts 834 = .ok (.iadd, 1) := by decide +kernel
theorem dL_acts_835 : decode cL_acts 835 = .ok (.iastore, 1) := by decide +kernel
theorem dL_acts_836 : decode cL_acts 836 = .ok (.aload_n 3, 1) := by decide +kernel
theorem dL_acts_837 : decode cL_acts 837 = .ok (.aload 4, 2) := by decide +kernel
theorem dL_acts_839 : decode cL_acts 839 = .ok (.aload 6, 2) := by decide +kernel
theorem dL_acts_841 : decode cL_acts 841 = .ok (.aload 7, 2) := by decide +kernel
theorem dL_acts_843 : decode cL_acts 843 = .ok (.iload 11, 2) := by decide +kernel
theorem dL_acts_845 : decode cL_acts 845 = .ok (.iconst (-1), 1) := by decide +kernel
theorem dL_acts_846 : decode cL_acts 846 = .ok (.aload 10, 2) := by decide +kernel
theorem dL_acts_848 : decode cL_acts 848 = .ok (.invokestatic 128, 3) := by decide +kernel
theorem dL_acts_851 : decode cL_acts 851 = .ok (.istore 13, 2) := by decide +kernel
theorem dL_acts_853 : decode cL_acts 853 = .ok (.iconst 0, 1) := by decide +kernel
theorem dL_acts_854 : decode cL_acts 854 = .ok (.istore 14, 2) := by decide +kernel
theorem dL_acts_856 : decode cL_acts 856 = .ok (.iload 14, 2) := by decide +kernel
theorem dL_acts_858 : decode cL_acts 858 = .ok (.iload 13, 2) := by decide +kernel
theorem dL_acts_860 : decode cL_acts 860 = .ok (.if_icmp .ge 58, 3) := by decide +kernel
theorem dL_acts_863 : decode cL_acts 863 = .ok (.aload_n 3, 1) := by decide +kernel
theorem dL_acts_864 : decode cL_acts 864 = .ok (.aload 4, 2) := by decide +kernel
theorem dL_acts_866 : decode cL_acts 866 = .ok (.aload 6, 2) := by decide +kernel
theorem dL_acts_868 : decode cL_acts 868 = .ok (.aload 7, 2) := by decide +kernel
theorem dL_acts_870 : decode cL_acts 870 = .ok (.iload 11, 2) := by decide +kernel
theorem dL_acts_872 : decode cL_acts 872 = .ok (.iload 14, 2) := by decide +kernel
theorem dL_acts_874 : decode cL_acts 874 = .ok (.aload 10, 2) := by decide +kernel
theorem dL_acts_876 : decode cL_acts 876 = .ok (.invokestatic 128, 3) := by decide +kernel
theorem dL_acts_879 : decode cL_acts 879 = .ok (.pop, 1) := by decide +kernel
theorem dL_acts_880 : decode cL_acts 880 = .ok (.aload 9, 2) := by decide +kernel
theorem dL_acts_882 : decode cL_acts 882 = .ok (.bipush 40, 2) := by decide +kernel
theorem dL_acts_884 : decode cL_acts 884 = .ok (.aload 7, 2) := by decide +kernel
theorem dL_acts_886 : decode cL_acts 886 = .ok (.iconst 4, 1) := by decide +kernel
theorem dL_acts_887 : decode cL_acts 887 = .ok (.iaload, 1) := by decide +kernel
theorem dL_acts_888 : decode cL_acts 888 = .ok (.iadd, 1) := by decide +kernel
theorem dL_acts_889 : decode cL_acts 889 = .ok (.dup2, 1) := by decide +kernel
theorem dL_acts_890 : decode cL_acts 890 = .ok (.iaload, 1) := by decide +kernel
theorem dL_acts_891 : decode cL_acts 891 = .ok (.aload 10, 2) := by decide +kernel
theorem dL_acts_893 : decode cL_acts 893 = .ok (.iconst 1, 1) := by decide +kernel
theorem dL_acts_894 : decode cL_acts 894 = .ok (.iaload, 1) := by decide +kernel
theorem dL_acts_895 : decode cL_acts 895 = .ok (.bipush 100, 2) := by decide +kernel
theorem dL_acts_897 : decode cL_acts 897 = .ok (.idiv, 1) := by decide +kernel
theorem dL_acts_898 : decode cL_acts 898 = .ok (.aload 7, 2) := by decide +kernel
theorem dL_acts_900 : decode cL_acts 900 = .ok (.iconst 4, 1) := by decide +kernel
theorem dL_acts_901 : decode cL_acts 901 = .ok (.iaload, 1) := by decide +kernel
theorem dL_acts_902 : decode cL_acts 902 = .ok (.if_icmp .ne 7, 3) := by decide +kernel
theorem dL_acts_905 : decode cL_acts 905 = .ok (.iconst 1, 1) := by decide +kernel
theorem dL_acts_906 : decode cL_acts 906 = .ok (.goto 4, 3) := by decide +kernel
theorem dL_acts_909 : decode cL_acts 909 = .ok (.iconst 0, 1) := by decide +kernel
theorem dL_acts_910 : decode cL_acts 910 = .ok (.iadd, 1) := by decide +kernel
theorem dL_acts_911 : decode cL_acts 911 = .ok (.iastore, 1) := by decide +kernel
theorem dL_acts_912 : decode cL_acts 912 = .ok (.iinc 14 1, 3) := by decide +kernel
theorem dL_acts_915 : decode cL_acts 915 = .ok (.goto (-59), 3) := by decide +kernel
theorem dL_acts_918 : decode cL_acts 918 = .ok (.iinc 11 1, 3) := by decide +kernel
theorem dL_acts_921 : decode cL_acts 921 = .ok (.goto (-179), 3) := by decide +kernel
theorem dL_acts_924 : decode cL_acts 924 = .ok (.aload 7, 2) := by decide +kernel
theorem dL_acts_926 : decode cL_acts 926 = .ok (.iconst 4, 1) := by decide +kernel
theorem dL_acts_927 : decode cL_acts 927 = .ok (.dup2, 1) := by decide +kernel
