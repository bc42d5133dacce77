theorem d_L_law_724 : decode code 724 = .ok (.iaload, 1) := by decide +kernel
theorem d_L_law_725 : decode code 725 = .ok (.i2l, 1) := by decide +kernel
theorem d_L_law_726 : decode code 726 = .ok (.bipush 32, 2) := by decide +kernel
theorem d_L_law_728 : decode code 728 = .ok (.lshl, 1) := by decide +kernel
theorem d_L_law_729 : decode code 729 = .ok (.aload_n 0, 1) := by decide +kernel
theorem d_L_law_730 : decode code 730 = .ok (.iload 4, 2) := by decide +kernel
theorem d_L_law_732 : decode code 732 = .ok (.iconst 4, 1) := by decide +kernel
theorem d_L_law_733 : decode code 733 = .ok (.iadd, 1) := by decide +kernel
theorem d_L_law_734 : decode code 734 = .ok (.iaload, 1) := by decide +kernel
theorem d_L_law_735 : decode code 735 = .ok (.i2l, 1) := by decide +kernel
theorem d_L_law_736 : decode code 736 = .ok (.ldc2_w 79, 3) := by decide +kernel
theorem d_L_law_739 : decode code 739 = .ok (.land, 1) := by decide +kernel
theorem d_L_law_740 : decode code 740 = .ok (.lor, 1) := by decide +kernel
theorem d_L_law_741 : decode code 741 = .ok (.aload_n 0, 1) := by decide +kernel
theorem d_L_law_742 : decode code 742 = .ok (.iload 4, 2) := by decide +kernel
theorem d_L_law_744 : decode code 744 = .ok (.iconst 5, 1) := by decide +kernel
theorem d_L_law_745 : decode code 745 = .ok (.iadd, 1) := by decide +kernel
theorem d_L_law_746 : decode code 746 = .ok (.iaload, 1) := by decide +kernel
theorem d_L_law_747 : decode code 747 = .ok (.i2l, 1) := by decide +kernel
theorem d_L_law_748 : decode code 748 = .ok (.bipush 32, 2) := by decide +kernel
theorem d_L_law_750 : decode code 750 = .ok (.lshl, 1) := by decide +kernel
theorem d_L_law_751 : decode code 751 = .ok (.aload_n 0, 1) := by decide +kernel
theorem d_L_law_752 : decode code 752 = .ok (.iload 4, 2) := by decide +kernel
theorem d_L_law_754 : decode code 754 = .ok (.bipush 6, 2) := by decide +kernel
theorem d_L_law_756 : decode code 756 = .ok (.iadd, 1) := by decide +kernel
theorem d_L_law_757 : decode code 757 = .ok (.iaload, 1) := by decide +kernel
theorem d_L_law_758 : decode code 758 = .ok (.i2l, 1) := by decide +kernel
theorem d_L_law_759 : decode code 759 = .ok (.ldc2_w 79, 3) := by decide +kernel
theorem d_L_law_762 : decode code 762 = .ok (.land, 1) := by decide +kernel
theorem d_L_law_763 : decode code 763 = .ok (.lor, 1) := by decide +kernel
theorem d_L_law_764 : decode code 764 = .ok (.invokevirtual 103, 3) := by decide +kernel
theorem d_L_law_767 : decode code 767 = .ok (.istore 6, 2) := by decide +kernel
theorem d_L_law_769 : decode code 769 = .ok (.aload_n 2, 1) := by decide +kernel
theorem d_L_law_770 : decode code 770 = .ok (.invokevirtual 85, 3) := by decide +kernel
theorem d_L_law_773 : decode code 773 = .ok (.iload 5, 2) := by decide +kernel
theorem d_L_law_775 : decode code 775 = .ok (.if_icmp .eq 5, 3) := by decide +kernel
theorem d_L_law_778 : decode code 778 = .ok (.iconst 0, 1) := by decide +kernel
theorem d_L_law_779 : decode code 779 = .ok (.ireturn, 1) := by decide +kernel
theorem d_L_law_780 : decode code 780 = .ok (.iload 5, 2) := by decide +kernel
theorem d_L_law_782 : decode code 782 = .ok (.ifCond .ne 15, 3) := by decide +kernel
theorem d_L_law_785 : decode code 785 = .ok (.aload_n 3, 1) := by decide +kernel
theorem d_L_law_786 : decode code 786 = .ok (.iconst 0, 1) := by decide +kernel
theorem d_L_law_787 : decode code 787 = .ok (.laload, 1) := by decide +kernel
theorem d_L_law_788 : decode code 788 = .ok (.iload 6, 2) := by decide +kernel
theorem d_L_law_790 : decode code 790 = .ok (.i2l, 1) := by decide +kernel
theorem d_L_law_791 : decode code 791 = .ok (.lcmp, 1) := by decide +kernel
theorem d_L_law_792 : decode code 792 = .ok (.ifCond .eq 5, 3) := by decide +kernel
theorem d_L_law_795 : decode code 795 = .ok (.iconst 0, 1) := by decide +kernel
theorem d_L_law_796 : decode code 796 = .ok (.ireturn, 1) := by decide +kernel
theorem d_L_law_797 : decode code 797 = .ok (.goto 802, 3) := by decide +kernel
theorem d_L_law_800 : decode code 800 = .ok (.aload_n 1, 1) := by decide +kernel
theorem d_L_law_801 : decode code 801 = .ok (.aload_n 0, 1) := by decide +kernel
theorem d_L_law_802 : decode code 802 = .ok (.iload 4, 2) := by decide +kernel
theorem d_L_law_804 : decode code 804 = .ok (.iconst 1, 1) := by decide +kernel
theorem d_L_law_805 : decode code 805 = .ok (.iadd, 1) := by decide +kernel
theorem d_L_law_806 : decode code 806 = .ok (.iaload, 1) := by decide +kernel
theorem d_L_law_807 : decode code 807 = .ok (.aload_n 0, 1) := by decide +kernel
theorem d_L_law_808 : decode code 808 = .ok (.iload 4, 2) := by decide +kernel
theorem d_L_law_810 : decode code 810 = .ok (.iconst 2, 1) := by decide +kernel
theorem d_L_law_811 : decode code 811 = .ok (.iadd, 1) := by decide +kernel
theorem d_L_law_812 : decode code 812 = .ok (.iaload, 1) := by decide +kernel
theorem d_L_law_813 : decode code 813 = .ok (.aload_n 0, 1) := by decide +kernel
theorem d_L_law_814 : decode code 814 = .ok (.iload 4, 2) := by decide +kernel
theorem d_L_law_816 : decode code 816 = .ok (.iconst 3, 1) := by decide +kernel
theorem d_L_law_817 : decode code 817 = .ok (.iadd, 1) := by decide +kernel
theorem d_L_law_818 : decode code 818 = .ok (.iaload, 1) := by decide +kernel
theorem d_L_law_819 : decode code 819 = .ok (.aload_n 3, 1) := by decide +kernel
theorem d_L_law_820 : decode code 820 = .ok (.invokestatic 104, 3) := by decide +kernel
theorem d_L_law_823 : decode code 823 = .ok (.istore 5, 2) := by decide +kernel
theorem d_L_law_825 : decode code 825 = .ok (.aload_n 2, 1) := by decide +kernel
theorem d_L_law_826 : decode code 826 = .ok (.aload_n 0, 1) := by decide +kernel
theorem d_L_law_827 : decode code 827 = .ok (.iload 4, 2) := by decide +kernel
theorem d_L_law_829 : decode code 829 = .ok (.iconst 1, 1) := by decide +kernel
theorem d_L_law_830 : decode code 830 = .ok (.iadd, 1) := by decide +kernel
theorem d_L_law_831 : decode code 831 = .ok (.iaload, 1) := by decide +kernel
theorem d_L_law_832 : decode code 832 = .ok (.aload_n 0, 1) := by decide +kernel
theorem d_L_law_833 : decode code 833 = .ok (.iload 4, 2) := by decide +kernel
theorem d_L_law_835 : decode code 835 = .ok (.iconst 2, 1) := by decide +kernel
theorem d_L_law_836 : decode code 836 = .ok (.iadd, 1) := by decide +kernel
theorem d_L_law_837 : decode code 837 = .ok (.iaload, 1) := by decide +kernel
theorem d_L_law_838 : decode code 838 = .ok (.aload_n 0, 1) := by decide +kernel
theorem d_L_law_839 : decode code 839 = .ok (.iload 4, 2) := by decide +kernel
theorem d_L_law_841 : decode code 841 = .ok (.iconst 3, 1) := by decide +kernel
theorem d_L_law_842 : decode code 842 = .ok (.iadd, 1) := by decide +kernel
theorem d_L_law_843 : decode code 843 = .ok (.iaload, 1) := by decide +kernel
theorem d_L_law_844 : decode code 844 = .ok (.invokevirtual 107, 3) := by decide +kernel
theorem d_L_law_847 : decode code 847 = .ok (.istore 6, 2) := by decide +kernel
theorem d_L_law_849 : decode code 849 = .ok (.aload_n 2, 1) := by decide +kernel
theorem d_L_law_850 : decode code 850 = .ok (.invokevirtual 85, 3) := by decide +kernel
theorem d_L_law_853 : decode code 853 = .ok (.iload 5, 2) := by decide +kernel
theorem d_L_law_855 : decode code 855 = .ok (.if_icmp .eq 5, 3) := by decide +kernel
theorem d_L_law_858 : decode code 858 = .ok (.iconst 0, 1) := by decide +kernel
theorem d_L_law_859 : decode code 859 = .ok (.ireturn, 1) := by decide +kernel
theorem d_L_law_860 : decode code 860 = .ok (.iload 5, 2) := by decide +kernel
theorem d_L_law_862 : decode code 862 = .ok (.ifCond .ne 22, 3) := by decide +kernel
theorem d_L_law_865 : decode code 865 = .ok (.aload_n 3, 1) := by decide +kernel
theorem d_L_law_866 : decode code 866 = .ok (.iconst 0, 1) := by decide +kernel
theorem d_L_law_867 : decode code 867 = .ok (.laload, 1) := by decide +kernel
theorem d_L_law_868 : decode code 868 = .ok (.iload 6, 2) := by decide +kernel
theorem d_L_law_870 : decode code 870 = .ok (.ifCond .eq 7, 3) := by decide +kernel
theorem d_L_law_873 : decode code 873 = .ok (.lconst 1, 1) := by decide +kernel
theorem d_L_law_874 : decode code 874 = .ok (.goto 4, 3) := by decide +kernel
theorem d_L_law_877 : decode code 877 = .ok (.lconst 0, 1) := by decide +kernel
theorem d_L_law_878 : decode code 878 = .ok (.lcmp, 1) := by decide +kernel
theorem d_L_law_879 : decode code 879 = .ok (.ifCond .eq 5, 3) := by decide +kernel
theorem d_L_law_882 : decode code 882 = .ok (.iconst 0, 1) := by decide +kernel
theorem d_L_law_883 : decode code 883 = .ok (.ireturn, 1) := by decide +kernel
theorem d_L_law_884 : decode code 884 = .ok (.goto 715, 3) := by decide +kernel
theorem d_L_law_887 : decode code 887 = .ok (.aload_n 1, 1) := by decide +kernel
theorem d_L_law_888 : decode code 888 = .ok (.aload_n 0, 1) := by decide +kernel
theorem d_L_law_889 : decode code 889 = .ok (.iload 4, 2) := by decide +kernel
theorem d_L_law_891 : decode code 891 = .ok (.iconst 1, 1) := by decide +kernel
theorem d_L_law_892 : decode code 892 = .ok (.iadd, 1) := by decide +kernel
theorem d_L_law_893 : decode code 893 = .ok (.iaload, 1) := by decide +kernel
theorem d_L_law_894 : decode code 894 = .ok (.aload_n 0, 1) := by decide +kernel
theorem d_L_law_895 : decode code 895 = .ok (.iload 4, 2) := by decide +kernel
theorem d_L_law_897 : decode code 897 = .ok (.iconst 2, 1) := by decide +kernel
theorem d_L_law_898 : decode code 898 = .ok (.iadd, 1) := by decide +kernel
theorem d_L_law_899 : decode code 899 = .ok (.iaload, 1) := by decide +kernel
theorem d_L_law_900 : decode code 900 = .ok (.i2l, 1) := by decide +kernel
theorem d_L_law_901 : decode code 901 = .ok (.bipush 32, 2) := by decide +kernel
theorem d_L_law_903 : decode code 903 = .ok (.lshl, 1) := by decide +kernel
theorem d_L_law_904 : decode code 904 = .ok (.aload_n 0, 1) := by decide +kernel
theorem d_L_law_905 : decode code 905 = .ok (.iload 4, 2) := by decide +kernel
theorem d_L_law_907 : decode code 907 = .ok (.iconst 3, 1) := by decide +kernel
theorem d_L_law_908 : decode code 908 = .ok (.iadd, 1) := by decide +kernel
theorem d_L_law_909 : decode code 909 = .ok (.iaload, 1) := by decide +kernel
theorem d_L_law_910 : decode code 910 = .ok (.i2l, 1) := by decide +kernel
theorem d_L_law_911 : decode code 911 = .ok (.ldc2_w 79, 3) := by decide +kernel
theorem d_L_law_914 : decode code 914 = .ok (.land, 1) := by decide +kernel
theorem d_L_law_915 : decode code 915 = .ok (.lor, 1) := by decide +kernel
theorem d_L_law_916 : decode code 916 = .ok (.aload_n 0, 1) := by decide +kernel
theorem d_L_law_917 : decode code 917 = .ok (.iload 4, 2) := by decide +kernel
theorem d_L_law_919 : decode code 919 = .ok (.iconst 4, 1) := by decide +kernel
theorem d_L_law_920 : decode code 920 = .ok (.iadd, 1) := by decide +kernel
theorem d_L_law_921 : decode code 921 = .ok (.iaload, 1) := by decide +kernel
theorem d_L_law_922 : decode code 922 = .ok (.i2l, 1) := by decide +kernel
theorem d_L_law_923 : decode code 923 = .ok (.bipush 32, 2) := by decide +kernel
theorem d_L_law_925 : decode code 925 = .ok (.lshl, 1) := by decide +kernel
theorem d_L_law_926 : decode code 926 = .ok (.aload_n 0, 1) := by decide +kernel
theorem d_L_law_927 : decode code 927 = .ok (.iload 4, 2) := by decide +kernel
theorem d_L_law_929 : decode code 929 = .ok (.iconst 5, 1) := by decide +kernel
theorem d_L_law_930 : decode code 930 = .ok (.iadd, 1) := by decide +kernel
theorem d_L_law_931 : decode code 931 = .ok (.iaload, 1) := by decide +kernel
theorem d_L_law_932 : decode code 932 = .ok (.i2l, 1) := by decide +kernel
theorem d_L_law_933 : decode code 933 = .ok (.ldc2_w 79, 3) := by decide +kernel
theorem d_L_law_936 : decode code 936 = .ok (.land, 1) := by decide +kernel
theorem d_L_law_937 : decode code 937 = .ok (.lor, 1) := by decide +kernel
theorem d_L_law_938 : decode code 938 = .ok (.aload_n 3, 1) := by decide +kernel
theorem d_L_law_939 : decode code 939 = .ok (.invokestatic 108, 3) := by decide +kernel
