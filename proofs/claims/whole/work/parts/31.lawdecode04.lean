theorem d_L_law_719 : decode code 719 = .ok (.ldc2_w 13, 3) := by decide +kernel
theorem d_L_law_722 : decode code 722 = .ok (.land, 1) := by decide +kernel
theorem d_L_law_723 : decode code 723 = .ok (.lor, 1) := by decide +kernel
theorem d_L_law_724 : decode code 724 = .ok (.invokevirtual 53, 3) := by decide +kernel
theorem d_L_law_727 : decode code 727 = .ok (.aload_n 2, 1) := by decide +kernel
theorem d_L_law_728 : decode code 728 = .ok (.aload_n 0, 1) := by decide +kernel
theorem d_L_law_729 : decode code 729 = .ok (.iload_n 3, 1) := by decide +kernel
theorem d_L_law_730 : decode code 730 = .ok (.iconst 1, 1) := by decide +kernel
theorem d_L_law_731 : decode code 731 = .ok (.iadd, 1) := by decide +kernel
theorem d_L_law_732 : decode code 732 = .ok (.iaload, 1) := by decide +kernel
theorem d_L_law_733 : decode code 733 = .ok (.i2l, 1) := by decide +kernel
theorem d_L_law_734 : decode code 734 = .ok (.bipush 32, 2) := by decide +kernel
theorem d_L_law_736 : decode code 736 = .ok (.lshl, 1) := by decide +kernel
theorem d_L_law_737 : decode code 737 = .ok (.aload_n 0, 1) := by decide +kernel
theorem d_L_law_738 : decode code 738 = .ok (.iload_n 3, 1) := by decide +kernel
theorem d_L_law_739 : decode code 739 = .ok (.iconst 2, 1) := by decide +kernel
theorem d_L_law_740 : decode code 740 = .ok (.iadd, 1) := by decide +kernel
theorem d_L_law_741 : decode code 741 = .ok (.iaload, 1) := by decide +kernel
theorem d_L_law_742 : decode code 742 = .ok (.i2l, 1) := by decide +kernel
theorem d_L_law_743 : decode code 743 = .ok (.ldc2_w 13, 3) := by decide +kernel
theorem d_L_law_746 : decode code 746 = .ok (.land, 1) := by decide +kernel
theorem d_L_law_747 : decode code 747 = .ok (.lor, 1) := by decide +kernel
theorem d_L_law_748 : decode code 748 = .ok (.invokevirtual 57, 3) := by decide +kernel
theorem d_L_law_751 : decode code 751 = .ok (.if_icmp .eq 451, 3) := by decide +kernel
theorem d_L_law_754 : decode code 754 = .ok (.iconst 0, 1) := by decide +kernel
theorem d_L_law_755 : decode code 755 = .ok (.ireturn, 1) := by decide +kernel
theorem d_L_law_756 : decode code 756 = .ok (.aload_n 1, 1) := by decide +kernel
theorem d_L_law_757 : decode code 757 = .ok (.aload_n 0, 1) := by decide +kernel
theorem d_L_law_758 : decode code 758 = .ok (.iload_n 3, 1) := by decide +kernel
theorem d_L_law_759 : decode code 759 = .ok (.iconst 1, 1) := by decide +kernel
theorem d_L_law_760 : decode code 760 = .ok (.iadd, 1) := by decide +kernel
theorem d_L_law_761 : decode code 761 = .ok (.iaload, 1) := by decide +kernel
theorem d_L_law_762 : decode code 762 = .ok (.aload_n 0, 1) := by decide +kernel
theorem d_L_law_763 : decode code 763 = .ok (.iload_n 3, 1) := by decide +kernel
theorem d_L_law_764 : decode code 764 = .ok (.iconst 2, 1) := by decide +kernel
theorem d_L_law_765 : decode code 765 = .ok (.iadd, 1) := by decide +kernel
theorem d_L_law_766 : decode code 766 = .ok (.iaload, 1) := by decide +kernel
theorem d_L_law_767 : decode code 767 = .ok (.ifCond .eq 7, 3) := by decide +kernel
theorem d_L_law_770 : decode code 770 = .ok (.iconst 1, 1) := by decide +kernel
theorem d_L_law_771 : decode code 771 = .ok (.goto 4, 3) := by decide +kernel
theorem d_L_law_774 : decode code 774 = .ok (.iconst 0, 1) := by decide +kernel
theorem d_L_law_775 : decode code 775 = .ok (.invokevirtual 58, 3) := by decide +kernel
theorem d_L_law_778 : decode code 778 = .ok (.aload_n 2, 1) := by decide +kernel
theorem d_L_law_779 : decode code 779 = .ok (.aload_n 0, 1) := by decide +kernel
theorem d_L_law_780 : decode code 780 = .ok (.iload_n 3, 1) := by decide +kernel
theorem d_L_law_781 : decode code 781 = .ok (.iconst 1, 1) := by decide +kernel
theorem d_L_law_782 : decode code 782 = .ok (.iadd, 1) := by decide +kernel
theorem d_L_law_783 : decode code 783 = .ok (.iaload, 1) := by decide +kernel
theorem d_L_law_784 : decode code 784 = .ok (.aload_n 0, 1) := by decide +kernel
theorem d_L_law_785 : decode code 785 = .ok (.iload_n 3, 1) := by decide +kernel
theorem d_L_law_786 : decode code 786 = .ok (.iconst 2, 1) := by decide +kernel
theorem d_L_law_787 : decode code 787 = .ok (.iadd, 1) := by decide +kernel
theorem d_L_law_788 : decode code 788 = .ok (.iaload, 1) := by decide +kernel
theorem d_L_law_789 : decode code 789 = .ok (.ifCond .eq 7, 3) := by decide +kernel
theorem d_L_law_792 : decode code 792 = .ok (.iconst 1, 1) := by decide +kernel
theorem d_L_law_793 : decode code 793 = .ok (.goto 4, 3) := by decide +kernel
theorem d_L_law_796 : decode code 796 = .ok (.iconst 0, 1) := by decide +kernel
theorem d_L_law_797 : decode code 797 = .ok (.invokevirtual 62, 3) := by decide +kernel
theorem d_L_law_800 : decode code 800 = .ok (.if_icmp .eq 402, 3) := by decide +kernel
theorem d_L_law_803 : decode code 803 = .ok (.iconst 0, 1) := by decide +kernel
theorem d_L_law_804 : decode code 804 = .ok (.ireturn, 1) := by decide +kernel
theorem d_L_law_805 : decode code 805 = .ok (.aload_n 1, 1) := by decide +kernel
theorem d_L_law_806 : decode code 806 = .ok (.aload_n 0, 1) := by decide +kernel
theorem d_L_law_807 : decode code 807 = .ok (.iload_n 3, 1) := by decide +kernel
theorem d_L_law_808 : decode code 808 = .ok (.iconst 1, 1) := by decide +kernel
theorem d_L_law_809 : decode code 809 = .ok (.iadd, 1) := by decide +kernel
theorem d_L_law_810 : decode code 810 = .ok (.iaload, 1) := by decide +kernel
theorem d_L_law_811 : decode code 811 = .ok (.aload_n 0, 1) := by decide +kernel
theorem d_L_law_812 : decode code 812 = .ok (.iload_n 3, 1) := by decide +kernel
theorem d_L_law_813 : decode code 813 = .ok (.iconst 2, 1) := by decide +kernel
theorem d_L_law_814 : decode code 814 = .ok (.iadd, 1) := by decide +kernel
theorem d_L_law_815 : decode code 815 = .ok (.iaload, 1) := by decide +kernel
theorem d_L_law_816 : decode code 816 = .ok (.i2l, 1) := by decide +kernel
theorem d_L_law_817 : decode code 817 = .ok (.bipush 32, 2) := by decide +kernel
theorem d_L_law_819 : decode code 819 = .ok (.lshl, 1) := by decide +kernel
theorem d_L_law_820 : decode code 820 = .ok (.aload_n 0, 1) := by decide +kernel
theorem d_L_law_821 : decode code 821 = .ok (.iload_n 3, 1) := by decide +kernel
theorem d_L_law_822 : decode code 822 = .ok (.iconst 3, 1) := by decide +kernel
theorem d_L_law_823 : decode code 823 = .ok (.iadd, 1) := by decide +kernel
theorem d_L_law_824 : decode code 824 = .ok (.iaload, 1) := by decide +kernel
theorem d_L_law_825 : decode code 825 = .ok (.i2l, 1) := by decide +kernel
theorem d_L_law_826 : decode code 826 = .ok (.ldc2_w 13, 3) := by decide +kernel
theorem d_L_law_829 : decode code 829 = .ok (.land, 1) := by decide +kernel
theorem d_L_law_830 : decode code 830 = .ok (.lor, 1) := by decide +kernel
theorem d_L_law_831 : decode code 831 = .ok (.invokevirtual 63, 3) := by decide +kernel
theorem d_L_law_834 : decode code 834 = .ok (.aload_n 2, 1) := by decide +kernel
theorem d_L_law_835 : decode code 835 = .ok (.aload_n 0, 1) := by decide +kernel
theorem d_L_law_836 : decode code 836 = .ok (.iload_n 3, 1) := by decide +kernel
theorem d_L_law_837 : decode code 837 = .ok (.iconst 1, 1) := by decide +kernel
theorem d_L_law_838 : decode code 838 = .ok (.iadd, 1) := by decide +kernel
theorem d_L_law_839 : decode code 839 = .ok (.iaload, 1) := by decide +kernel
theorem d_L_law_840 : decode code 840 = .ok (.aload_n 0, 1) := by decide +kernel
theorem d_L_law_841 : decode code 841 = .ok (.iload_n 3, 1) := by decide +kernel
theorem d_L_law_842 : decode code 842 = .ok (.iconst 2, 1) := by decide +kernel
theorem d_L_law_843 : decode code 843 = .ok (.iadd, 1) := by decide +kernel
theorem d_L_law_844 : decode code 844 = .ok (.iaload, 1) := by decide +kernel
theorem d_L_law_845 : decode code 845 = .ok (.i2l, 1) := by decide +kernel
theorem d_L_law_846 : decode code 846 = .ok (.bipush 32, 2) := by decide +kernel
theorem d_L_law_848 : decode code 848 = .ok (.lshl, 1) := by decide +kernel
theorem d_L_law_849 : decode code 849 = .ok (.aload_n 0, 1) := by decide +kernel
theorem d_L_law_850 : decode code 850 = .ok (.iload_n 3, 1) := by decide +kernel
theorem d_L_law_851 : decode code 851 = .ok (.iconst 3, 1) := by decide +kernel
theorem d_L_law_852 : decode code 852 = .ok (.iadd, 1) := by decide +kernel
theorem d_L_law_853 : decode code 853 = .ok (.iaload, 1) := by decide +kernel
theorem d_L_law_854 : decode code 854 = .ok (.i2l, 1) := by decide +kernel
theorem d_L_law_855 : decode code 855 = .ok (.ldc2_w 13, 3) := by decide +kernel
theorem d_L_law_858 : decode code 858 = .ok (.land, 1) := by decide +kernel
theorem d_L_law_859 : decode code 859 = .ok (.lor, 1) := by decide +kernel
theorem d_L_law_860 : decode code 860 = .ok (.invokevirtual 67, 3) := by decide +kernel
theorem d_L_law_863 : decode code 863 = .ok (.if_icmp .eq 339, 3) := by decide +kernel
theorem d_L_law_866 : decode code 866 = .ok (.iconst 0, 1) := by decide +kernel
theorem d_L_law_867 : decode code 867 = .ok (.ireturn, 1) := by decide +kernel
theorem d_L_law_868 : decode code 868 = .ok (.aload_n 1, 1) := by decide +kernel
theorem d_L_law_869 : decode code 869 = .ok (.aload_n 0, 1) := by decide +kernel
theorem d_L_law_870 : decode code 870 = .ok (.iload_n 3, 1) := by decide +kernel
theorem d_L_law_871 : decode code 871 = .ok (.iconst 1, 1) := by decide +kernel
theorem d_L_law_872 : decode code 872 = .ok (.iadd, 1) := by decide +kernel
theorem d_L_law_873 : decode code 873 = .ok (.iaload, 1) := by decide +kernel
theorem d_L_law_874 : decode code 874 = .ok (.aload_n 0, 1) := by decide +kernel
theorem d_L_law_875 : decode code 875 = .ok (.iload_n 3, 1) := by decide +kernel
theorem d_L_law_876 : decode code 876 = .ok (.iconst 2, 1) := by decide +kernel
theorem d_L_law_877 : decode code 877 = .ok (.iadd, 1) := by decide +kernel
theorem d_L_law_878 : decode code 878 = .ok (.iaload, 1) := by decide +kernel
theorem d_L_law_879 : decode code 879 = .ok (.aload_n 0, 1) := by decide +kernel
theorem d_L_law_880 : decode code 880 = .ok (.iload_n 3, 1) := by decide +kernel
theorem d_L_law_881 : decode code 881 = .ok (.iconst 3, 1) := by decide +kernel
theorem d_L_law_882 : decode code 882 = .ok (.iadd, 1) := by decide +kernel
theorem d_L_law_883 : decode code 883 = .ok (.iaload, 1) := by decide +kernel
theorem d_L_law_884 : decode code 884 = .ok (.i2l, 1) := by decide +kernel
theorem d_L_law_885 : decode code 885 = .ok (.bipush 32, 2) := by decide +kernel
theorem d_L_law_887 : decode code 887 = .ok (.lshl, 1) := by decide +kernel
theorem d_L_law_888 : decode code 888 = .ok (.aload_n 0, 1) := by decide +kernel
theorem d_L_law_889 : decode code 889 = .ok (.iload_n 3, 1) := by decide +kernel
theorem d_L_law_890 : decode code 890 = .ok (.iconst 4, 1) := by decide +kernel
theorem d_L_law_891 : decode code 891 = .ok (.iadd, 1) := by decide +kernel
theorem d_L_law_892 : decode code 892 = .ok (.iaload, 1) := by decide +kernel
theorem d_L_law_893 : decode code 893 = .ok (.i2l, 1) := by decide +kernel
theorem d_L_law_894 : decode code 894 = .ok (.ldc2_w 13, 3) := by decide +kernel
theorem d_L_law_897 : decode code 897 = .ok (.land, 1) := by decide +kernel
theorem d_L_law_898 : decode code 898 = .ok (.lor, 1) := by decide +kernel
theorem d_L_law_899 : decode code 899 = .ok (.invokevirtual 68, 3) := by decide +kernel
theorem d_L_law_902 : decode code 902 = .ok (.aload_n 2, 1) := by decide +kernel
theorem d_L_law_903 : decode code 903 = .ok (.aload_n 0, 1) := by decide +kernel
theorem d_L_law_904 : decode code 904 = .ok (.iload_n 3, 1) := by decide +kernel
theorem d_L_law_905 : decode code 905 = .ok (.iconst 1, 1) := by decide +kernel
theorem d_L_law_906 : decode code 906 = .ok (.iadd, 1) := by decide +kernel
theorem d_L_law_907 : decode code 907 = .ok (.iaload, 1) := by decide +kernel
theorem d_L_law_908 : decode code 908 = .ok (.aload_n 0, 1) := by decide +kernel
theorem d_L_law_909 : decode code 909 = .ok (.iload_n 3, 1) := by decide +kernel
theorem d_L_law_910 : decode code 910 = .ok (.iconst 2, 1) := by decide +kernel
theorem d_L_law_911 : decode code 911 = .ok (.iadd, 1) := by decide +kernel
theorem d_L_law_912 : decode code 912 = .ok (.iaload, 1) := by decide +kernel
theorem d_L_law_913 : decode code 913 = .ok (.aload_n 0, 1) := by decide +kernel
theorem d_L_law_914 : decode code 914 = .ok (.iload_n 3, 1) := by decide +kernel
theorem d_L_law_915 : decode code 915 = .ok (.iconst 3, 1) := by decide +kernel
theorem d_L_law_916 : decode code 916 = .ok (.iadd, 1) := by decide +kernel
theorem d_L_law_917 : decode code 917 = .ok (.iaload, 1) := by decide +kernel
theorem d_L_law_918 : decode code 918 = .ok (.i2l, 1) := by decide +kernel
theorem d_L_law_919 : decode code 919 = .ok (.bipush 32, 2) := by decide +kernel
theorem d_L_law_921 : decode code 921 = .ok (.lshl, 1) := by decide +kernel
theorem d_L_law_922 : decode code 922 = .ok (.aload_n 0, 1) := by decide +kernel
theorem d_L_law_923 : decode code 923 = .ok (.iload_n 3, 1) := by decide +kernel
theorem d_L_law_924 : decode code 924 = .ok (.iconst 4, 1) := by decide +kernel
theorem d_L_law_925 : decode code 925 = .ok (.iadd, 1) := by decide +kernel
theorem d_L_law_926 : decode code 926 = .ok (.iaload, 1) := by decide +kernel
theorem d_L_law_927 : decode code 927 = .ok (.i2l, 1) := by decide +kernel
theorem d_L_law_928 : decode code 928 = .ok (.ldc2_w 13, 3) := by decide +kernel
theorem d_L_law_931 : decode code 931 = .ok (.land, 1) := by decide +kernel
theorem d_L_law_932 : decode code 932 = .ok (.lor, 1) := by decide +kernel
theorem d_L_law_933 : decode code 933 = .ok (.invokevirtual 72, 3) := by decide +kernel
